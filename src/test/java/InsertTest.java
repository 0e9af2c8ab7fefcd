/** Promise 2: insert. */
public final class InsertTest {
    private static final Class<IllegalArgumentException> RANGE = IllegalArgumentException.class;
    private static final Class<IllegalStateException> FULL = IllegalStateException.class;
    private static final int MOST = Integer.MAX_VALUE;
    private static final int LEAST = Integer.MIN_VALUE;

    private final Check check = new Check();

    public static void main(String[] args) {
        InsertTest test = new InsertTest();
        test.places();
        test.fewestAtOnce();
        test.mostAtOnce();
        test.wrongNumbers();
        test.indexInNone();
        test.indexInSome();
        test.indexInFull();
        test.steps();
        test.wrapsUpAndDown();
        test.wrapsIntoALineEnd();
        test.wrapsAllTheWay();
        test.answersTheLength();
        test.tooManyInFull();
        test.tooManyBesideRoom();
        test.roomAgainBehindDelete();
        test.everyRoom();
        test.check.end();
    }

    private void places() {
        check.about("elements come in at an index");
        LineChunks x = new LineChunks();
        x.insert(0, 8, 1, 4);
        check.row("into none", x, 8, 9, 10, 11);
        x.insert(0, 1, 9, 2);
        check.row("in front", x, 1, 10, 8, 9, 10, 11);
        x.insert(6, 10, -20, 2);
        check.row("behind", x, 1, 10, 8, 9, 10, 11, 10, -10);
        x.insert(3, 10, 0, 1);
        check.row("between", x, 1, 10, 8, 10, 9, 10, 11, 10, -10);
        x.insert(8, 4, 0, 1);
        check.row("in front of the last", x, 1, 10, 8, 10, 9, 10, 11, 10, 4, -10);
        x.insert(1, 5, 0, 1);
        check.row("behind the first", x, 1, 5, 10, 8, 10, 9, 10, 11, 10, 4, -10);
    }

    private void fewestAtOnce() {
        check.about("n (1 .. 500): 1");
        LineChunks x = new LineChunks();
        check.same("insert(0, 10, 5, 1)", 1, x.insert(0, 10, 5, 1));
        check.row("one, its step unused", x, 10);
        check.same("insert(1, 3, most, 1)", 2, x.insert(1, 3, MOST, 1));
        check.row("one more, its step unused", x, 10, 3);
    }

    private void mostAtOnce() {
        check.about("n (1 .. 500): 500");
        LineChunks x = new LineChunks();
        check.same("insert(0, 0, 1, 500)", 500, x.insert(0, 0, 1, 500));
        check.same("get(0)", 0, x.get(0));
        check.same("get(499)", 499, x.get(499));
        check.same("insert(1, -1, -1, 500)", 1000, x.insert(1, -1, -1, 500));
        check.same("get(0)", 0, x.get(0));
        check.same("get(1)", -1, x.get(1));
        check.same("get(500)", -500, x.get(500));
        check.same("get(501)", 1, x.get(501));
        check.same("get(999)", 499, x.get(999));
        check.same("line(1)", 511, x.line(1));
        check.same("insert(1000, 10, 0, 499)", 1499, x.insert(1000, 10, 0, 499));
        check.same("insert(0, 10, 0, 500)", 1999, x.insert(0, 10, 0, 500));
        check.same("lines()", 1001, x.lines());
    }

    private void wrongNumbers() {
        check.about("n (1 .. 500): out of its range");
        for (int n : new int[] {0, -1, -500, LEAST, LEAST + 1, 501, 502, 1000, 20000, 65536 + 1, MOST, MOST - 1}) {
            LineChunks x = new LineChunks();
            check.refused("insert(0, 10, 0, " + n + ") into none", RANGE, () -> x.insert(0, 10, 0, n));
            check.row("refused in none", x);
            x.insert(0, 9, 1, 3);
            for (int index = 0; index <= 3; index++) {
                int at = index;
                check.refused("insert(" + at + ", 10, 0, " + n + ")", RANGE, () -> x.insert(at, 10, 0, n));
            }
            check.row("refused", x, 9, 10, 11);
        }
    }

    private void indexInNone() {
        check.about("an index (0 .. length): none are there");
        LineChunks x = new LineChunks();
        for (int index : new int[] {-1, 1, 2, 500, LEAST, MOST}) {
            check.refused("insert(" + index + ", 10, 0, 1)", RANGE, () -> x.insert(index, 10, 0, 1));
        }
        check.row("refused in none", x);
        check.same("insert(0, 10, 0, 1)", 1, x.insert(0, 10, 0, 1));
        check.row("at 0 in none", x, 10);
    }

    private void indexInSome() {
        check.about("an index (0 .. length): some are there");
        LineChunks x = new LineChunks();
        x.insert(0, 9, 1, 3);
        for (int index : new int[] {-1, -2, 4, 5, LEAST, LEAST + 1, MOST, MOST - 1}) {
            check.refused("insert(" + index + ", 10, 0, 1)", RANGE, () -> x.insert(index, 10, 0, 1));
            check.refused("insert(" + index + ", 10, 0, 500)", RANGE, () -> x.insert(index, 10, 0, 500));
        }
        check.row("refused", x, 9, 10, 11);
        check.same("insert(3, 10, 0, 1), at the length", 4, x.insert(3, 10, 0, 1));
        check.row("at the length", x, 9, 10, 11, 10);
        check.same("insert(0, 10, 0, 1), at 0", 5, x.insert(0, 10, 0, 1));
        check.row("at 0", x, 10, 9, 10, 11, 10);
        x.delete(3, 2);
        check.refused("insert(4, 10, 0, 1) where the length has been", RANGE, () -> x.insert(4, 10, 0, 1));
        check.row("refused behind a delete", x, 10, 9, 10);
    }

    private void indexInFull() {
        check.about("an index (0 .. length): all but one are there");
        LineChunks x = Check.full(3);
        x.delete(0, 1);
        check.refused("insert(20000, 3, 0, 1) beside 19999", RANGE, () -> x.insert(20000, 3, 0, 1));
        check.refused("insert(-1, 3, 0, 1) beside 19999", RANGE, () -> x.insert(-1, 3, 0, 1));
        check.same("insert(19999, 10, 0, 1), at the length", 20000, x.insert(19999, 10, 0, 1));
        check.same("get(19999)", 10, x.get(19999));
        check.same("line(1)", 20000, x.line(1));
        x.delete(5, 1);
        check.same("insert(0, 10, 0, 1), at 0", 20000, x.insert(0, 10, 0, 1));
        check.same("line(1)", 1, x.line(1));
        check.same("line(2)", 20000, x.line(2));
    }

    private void steps() {
        check.about("the first one value, each next one higher by step, in this order");
        LineChunks x = new LineChunks();
        x.insert(0, -3, 0, 3);
        check.row("step 0", x, -3, -3, -3);
        x.insert(1, 12, -1, 4);
        check.row("step -1", x, -3, 12, 11, 10, 9, -3, -3);
        x.insert(7, -10, 10, 4);
        check.row("step 10", x, -3, 12, 11, 10, 9, -3, -3, -10, 0, 10, 20);
    }

    private void wrapsUpAndDown() {
        check.about("higher by step (wrapping): beyond the largest and the smallest int");
        LineChunks x = new LineChunks();
        x.insert(0, MOST, 1, 3);
        check.row("up", x, MOST, LEAST, LEAST + 1);
        x.insert(3, LEAST, -1, 2);
        check.row("down", x, MOST, LEAST, LEAST + 1, LEAST, MOST);
        x.insert(0, 10, LEAST, 3);
        check.row("by the least step", x, 10, LEAST + 10, 10, MOST, LEAST, LEAST + 1, LEAST, MOST);
        LineChunks y = new LineChunks();
        y.insert(0, MOST, MOST, 4);
        check.row("by the largest step", y, MOST, -2, MOST - 2, -4);
    }

    private void wrapsIntoALineEnd() {
        check.about("higher by step (wrapping): into a 10");
        LineChunks x = new LineChunks();
        x.insert(0, 2000000000, 1147483653, 3);
        check.row("up into 10", x, 2000000000, -1147483643, 10);
        LineChunks y = new LineChunks();
        y.insert(0, -2000000000, -1147483643, 3);
        check.row("down into 10", y, -2000000000, 1147483653, 10);
    }

    private void wrapsAllTheWay() {
        check.about("higher by step (wrapping): 500 times");
        int[] steps = {MOST, LEAST, 1 << 30, 123456789, -123456789};
        for (int step : steps) {
            LineChunks x = new LineChunks();
            x.insert(0, 10, step, 500);
            for (int i = 0; i < 500; i++) {
                check.same("step " + step + ": get(" + i + ")", (int) (10 + (long) i * step), x.get(i));
            }
        }
    }

    private void answersTheLength() {
        check.about("answers the length");
        LineChunks x = new LineChunks();
        check.same("insert of 1", 1, x.insert(0, 10, 0, 1));
        check.same("insert of 2 in front", 3, x.insert(0, 0, 0, 2));
        check.same("insert of 500 behind", 503, x.insert(3, 0, 0, 500));
        check.same("insert of 9 between", 512, x.insert(100, 0, 0, 9));
        check.same("insert of 1 more", 513, x.insert(512, 0, 0, 1));
        x.delete(0, 511);
        check.same("insert of 4 behind a delete", 6, x.insert(1, 0, 0, 4));
    }

    private void tooManyInFull() {
        check.about("IllegalStateException: there would be too many.");
        LineChunks x = Check.full(3);
        for (int n : new int[] {1, 2, 499, 500}) {
            for (int index : new int[] {0, 1, 19999, 20000}) {
                check.refused("insert(" + index + ", 10, 0, " + n + ") in full", FULL, () -> x.insert(index, 10, 0, n));
            }
        }
        check.fullRow("refused in full", x, 3);
    }

    private void tooManyBesideRoom() {
        check.about("IllegalStateException: there would be too many.");
        for (int room : new int[] {1, 2, 250, 498, 499}) {
            LineChunks x = Check.full(3);
            x.delete(100, room);
            int length = 20000 - room;
            String beside = " beside " + length;
            check.refused("insert of 500" + beside, FULL, () -> x.insert(5, 10, 0, 500));
            check.refused("insert of one too many" + beside, FULL, () -> x.insert(5, 10, 0, room + 1));
            check.refused("insert of one too many, last" + beside, FULL, () -> x.insert(length, 10, 0, room + 1));
            check.same("lines()" + beside, 1, x.lines());
            check.same("digest()" + beside, (int) (3 * ((long) length * (length + 1) / 2)), x.digest());
            check.same("insert of as many as there is room for" + beside, 20000, x.insert(5, 3, 0, room));
            check.fullRow("filled up" + beside, x, 3);
        }
        LineChunks y = Check.full(3);
        y.delete(0, 500);
        check.same("insert of 500 beside 19500", 20000, y.insert(19500, 3, 0, 500));
        check.fullRow("filled up beside 19500", y, 3);
    }

    private void roomAgainBehindDelete() {
        check.about("IllegalStateException: there would be too many: not once some have gone");
        LineChunks x = Check.full(3);
        x.delete(100, 7);
        check.same("insert(5, 10, 0, 7) beside 19993", 20000, x.insert(5, 10, 0, 7));
        check.same("get(4)", 3, x.get(4));
        check.same("get(5)", 10, x.get(5));
        check.same("get(11)", 10, x.get(11));
        check.same("get(12)", 3, x.get(12));
        check.same("get(19999)", 3, x.get(19999));
        check.same("lines()", 8, x.lines());
        check.refused("insert(5, 10, 0, 1) in full again", FULL, () -> x.insert(5, 10, 0, 1));
        x.delete(0, 20000);
        check.same("insert of 500 behind a delete of all", 500, x.insert(0, 10, 0, 500));
    }

    /** The row's array grows at some lengths: an insert up to, onto and over each power of two and each 500. */
    private void everyRoom() {
        check.about("n elements come in at an index, whatever the length");
        for (int length = 512; length <= 16384; length *= 2) {
            for (int beside = -1; beside <= 1; beside++) {
                grown(length + beside, 1);
                grown(length + beside, 500);
            }
        }
        for (int length = 500; length <= 19500; length += 500) {
            grown(length, 500);
        }
    }

    private void grown(int length, int n) {
        for (int index : new int[] {0, length / 2, length}) {
            LineChunks x = new LineChunks();
            for (int i = 0; i < length; i += 500) {
                x.insert(i, i, 1, Math.min(500, length - i));
            }
            String when = n + " at " + index + " of " + length + ": ";
            check.same(when + "insert", length + n, x.insert(index, -1, -1, n));
            long sum = 0;
            for (int i = 0; i < length + n; i++) {
                sum += (long) (i + 1) * (i < index ? i : i < index + n ? index - i - 1 : i - n);
            }
            check.same(when + "digest()", (int) sum, x.digest());
            check.same(when + "get of the last new one", -n, x.get(index + n - 1));
            check.same(when + "lines()", 2, x.lines());
        }
    }
}
