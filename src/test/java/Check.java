/** What the tests share: compares answers, tells the wrong ones, and ends with exit code 1 if there was one. */
final class Check {
    interface Call {
        int answer();
    }

    private int asked = 0;
    private int wrong = 0;

    void same(String call, long want, long got) {
        asked++;
        if (got != want) {
            tell(call + " answered " + got + ", due is " + want);
        }
    }

    /** The very class is due, since a class below it would be another exception than the document's. */
    void refused(String call, Class<? extends RuntimeException> want, Call made) {
        asked++;
        try {
            tell(call + " answered " + made.answer() + ", due is " + want.getSimpleName());
        } catch (RuntimeException e) {
            if (e.getClass() != want) {
                tell(call + " threw " + e + ", due is " + want.getSimpleName());
            }
        }
    }

    /** Compares the whole row and all lines with what is due; takes some 3 calls an element. */
    void row(String when, LineChunks x, int... want) {
        same(when + ": length()", want.length, x.length());
        int sum = 0;
        int line = 0;
        same(when + ": line(0)", 0, x.line(0));
        for (int i = 0; i < want.length; i++) {
            same(when + ": get(" + i + ")", want[i], x.get(i));
            same(when + ": lineOf(" + i + ")", line, x.lineOf(i));
            sum += want[i] * (i + 1);
            if (want[i] == 10) {
                line++;
                same(when + ": line(" + line + ")", i + 1, x.line(line));
            }
        }
        same(when + ": lineOf(length)", line, x.lineOf(want.length));
        same(when + ": lines()", line + 1, x.lines());
        same(when + ": digest()", sum, x.digest());
    }

    /** An object with 20000 elements, made by 40 calls. */
    static LineChunks full(int value) {
        LineChunks x = new LineChunks();
        for (int i = 0; i < 40; i++) {
            x.insert(x.length(), value, 0, 500);
        }
        return x;
    }

    void end() {
        System.out.println(asked + " answers, " + wrong + " wrong");
        if (wrong != 0) {
            System.exit(1);
        }
    }

    private void tell(String fault) {
        wrong++;
        System.out.println(fault);
    }
}
