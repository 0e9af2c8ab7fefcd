/** What the tests share: compares answers, tells the wrong ones, and ends with exit code 1 if there was one. */
final class Check {
    interface Call {
        int answer();
    }

    /** As many elements as a row may have. */
    static final int FULL = 20000;

    private String words = "";
    private int asked = 0;
    private int wrong = 0;

    /** The document's words that the answers asked from now on are about; a fault is told with them. */
    void about(String words) {
        this.words = words;
    }

    void same(String call, long want, long got) {
        asked++;
        if (got != want) {
            tell(call + " answered " + got + ", due is " + want);
        }
    }

    /** The very class is due, since a class below it would be another exception than the document's. */
    void refused(String call, Class<? extends RuntimeException> want, Call made) {
        asked++;
        try {
            tell(call + " answered " + made.answer() + ", due is " + want.getSimpleName());
        } catch (RuntimeException e) {
            if (e.getClass() != want) {
                tell(call + " threw " + e + ", due is " + want.getSimpleName());
            }
        }
    }

    /** Compares the whole row and all lines with what is due; takes 2 calls an element, one a line end, and 5. */
    void row(String when, LineChunks x, int... want) {
        same(when + ": length()", want.length, x.length());
        int sum = 0;
        int line = 0;
        same(when + ": line(0)", 0, x.line(0));
        for (int i = 0; i < want.length; i++) {
            same(when + ": get(" + i + ")", want[i], x.get(i));
            same(when + ": lineOf(" + i + ")", line, x.lineOf(i));
            sum += want[i] * (i + 1);
            if (want[i] == 10) {
                line++;
                same(when + ": line(" + line + ")", i + 1, x.line(line));
            }
        }
        same(when + ": lineOf(length)", line, x.lineOf(want.length));
        same(when + ": lines()", line + 1, x.lines());
        same(when + ": digest()", sum, x.digest());
    }

    /** Compares a full row of one value with what is due, in 8 calls. */
    void fullRow(String when, LineChunks x, int value) {
        int lineEnds = value == 10 ? FULL : 0;
        same(when + ": length()", FULL, x.length());
        same(when + ": lines()", lineEnds + 1, x.lines());
        same(when + ": line(last)", lineEnds, x.line(lineEnds));
        same(when + ": lineOf(length)", lineEnds, x.lineOf(FULL));
        same(when + ": digest()", (int) (200010000L * value), x.digest());
        for (int index : new int[] {0, FULL / 2, FULL - 1}) {
            same(when + ": get(" + index + ")", value, x.get(index));
        }
    }

    /** A row of 20000 times one value, made by 40 calls. */
    static LineChunks full(int value) {
        LineChunks x = new LineChunks();
        for (int length = 0; length < FULL; length += 500) {
            x.insert(length, value, 0, 500);
        }
        return x;
    }

    void end() {
        System.out.println(asked + " answers, " + wrong + " wrong");
        if (wrong != 0) {
            System.exit(1);
        }
    }

    private void tell(String fault) {
        wrong++;
        System.out.println(fault + (words.isEmpty() ? "" : " (\"" + words + "\")"));
    }
}
