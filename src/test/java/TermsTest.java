import java.util.NoSuchElementException;

/** The sentences of "What it is" and of "Terms", each with the cases that it bounds. */
public final class TermsTest {
    private static final Class<IllegalArgumentException> RANGE = IllegalArgumentException.class;
    private static final Class<IllegalStateException> FULL = IllegalStateException.class;
    private static final Class<NoSuchElementException> NONE = NoSuchElementException.class;
    private static final int MOST = Integer.MAX_VALUE;
    private static final int LEAST = Integer.MIN_VALUE;

    private final Check check = new Check();

    public static void main(String[] args) {
        TermsTest test = new TermsTest();
        test.use();
        test.elementsAreInts();
        test.indexedFromZero();
        test.atMost();
        test.noneAtFirst();
        test.endsALine();
        test.lineZero();
        test.nextLines();
        test.orderOfTesting();
        test.nothingChangesInNone();
        test.nothingChangesInSome();
        test.nothingChangesInFull();
        test.nothingChangesBesideTooMany();
        test.refusedThenTaken();
        test.outOfRange();
        test.check.end();
    }

    private void use() {
        check.about("An object is used for at most 512 calls after it has been made");
        check.same("the 512th call insert", 512, used511().insert(511, 0, 0, 1));
        check.same("the 512th call delete", 510, used511().delete(510, 1));
        check.same("the 512th call get", 510, used511().get(510));
        check.same("the 512th call length", 511, used511().length());
        check.same("the 512th call lines", 2, used511().lines());
        check.same("the 512th call line", 11, used511().line(1));
        check.same("the 512th call lineOf", 1, used511().lineOf(511));
        check.same("the 512th call digest", 510 * 511 * 1021 / 6 + 510 * 511 / 2, used511().digest());
        check.refused("the 512th call insert, refused", RANGE, () -> used511().insert(512, 0, 0, 1));
        check.refused("the 512th call get, refused", NONE, () -> used511().get(511));
        check.refused("the 512th call insert, too many", FULL, () -> full511().insert(0, 0, 0, 1));
        check.same("the 512th call delete of all", 0, full511().delete(0, Check.FULL));
    }

    /** 0 .. 510, made by 511 calls. */
    private static LineChunks used511() {
        LineChunks x = new LineChunks();
        for (int i = 0; i < 511; i++) {
            x.insert(i, i, 0, 1);
        }
        return x;
    }

    private static LineChunks full511() {
        LineChunks x = Check.full(10);
        for (int i = 40; i < 511; i++) {
            x.lines();
        }
        return x;
    }

    private void elementsAreInts() {
        check.about("THE ROW has ELEMENTS, ints");
        int[] all = {MOST, LEAST, 0, -1, 1, 255, 256, 65535, 65536, -128, -32769, 10, 1 << 30, MOST - 1, LEAST + 1};
        LineChunks x = new LineChunks();
        for (int i = 0; i < all.length; i++) {
            x.insert(i, all[i], 0, 1);
        }
        check.row("ints of every size", x, all);
    }

    private void indexedFromZero() {
        check.about("indexed from 0");
        LineChunks x = new LineChunks();
        x.insert(0, 7, 1, 2);
        check.same("get(0)", 7, x.get(0));
        check.same("get(1)", 8, x.get(1));
        check.refused("get(-1)", NONE, () -> x.get(-1));
        check.refused("get(2)", NONE, () -> x.get(2));
    }

    private void atMost() {
        check.about("at most 20000");
        LineChunks x = new LineChunks();
        for (int i = 0; i < 39; i++) {
            x.insert(0, 3, 0, 500);
        }
        check.same("insert to 19999", 19999, x.insert(0, 3, 0, 499));
        check.refused("insert of 2 to 20001", FULL, () -> x.insert(0, 3, 0, 2));
        check.same("insert to 20000", 20000, x.insert(0, 3, 0, 1));
        check.refused("insert to 20001", FULL, () -> x.insert(0, 3, 0, 1));
        check.fullRow("20000", x, 3);
    }

    private void noneAtFirst() {
        check.about("none at first");
        check.row("at first", new LineChunks());
        check.refused("get(0) at first", NONE, () -> new LineChunks().get(0));
    }

    private void endsALine() {
        check.about("An element ENDS A LINE if it is 10.");
        LineChunks x = new LineChunks();
        x.insert(0, 10, 0, 1);
        check.same("lines() of 10", 2, x.lines());
        check.same("line(1) of 10", 1, x.line(1));
        check.same("lineOf(1) of 10", 1, x.lineOf(1));
        // Those beside 10, its negatives, and those that share their low bits with it.
        int[] others = {9, 11, 0, 13, -10, -11, ~10, 10 + 256, 10 + 65536, 10 + LEAST, 10 << 8, 10 << 24, 100, LEAST, MOST};
        for (int other : others) {
            LineChunks y = new LineChunks();
            y.insert(0, other, 0, 3);
            check.row("lines of " + other, y, other, other, other);
            check.refused("line(1) of " + other, NONE, () -> y.line(1));
            y.insert(3, 10, 0, 1);
            check.same("line(1) behind a 10 among " + other, 4, y.line(1));
            y.delete(0, 1);
            check.same("lines() of a 10 behind " + other, 2, y.lines());
        }
    }

    private void lineZero() {
        check.about("LINES are numbered from 0; line 0 begins at index 0");
        LineChunks x = new LineChunks();
        check.same("line(0) of none", 0, x.line(0));
        check.refused("line(-1) of none", NONE, () -> x.line(-1));
        x.insert(0, 5, 0, 1);
        check.same("line(0) without a line's end", 0, x.line(0));
        x.insert(0, 10, 0, 1);
        check.same("line(0) that its first element ends", 0, x.line(0));
        check.refused("line(-1)", NONE, () -> x.line(-1));
        check.same("line(0) of full", 0, Check.full(10).line(0));
    }

    private void nextLines() {
        check.about("each next one behind an element that ends a line");
        LineChunks x = new LineChunks();
        x.insert(0, 10, 0, 1);
        check.row("a line's end alone", x, 10);
        x.insert(1, 10, 0, 1);
        check.row("two side by side", x, 10, 10);
        x.insert(1, 4, 0, 1);
        check.row("first and last", x, 10, 4, 10);
        x.insert(3, 6, 0, 1);
        check.row("one behind the last", x, 10, 4, 10, 6);
        x.insert(0, 2, 0, 1);
        check.row("one in front of the first", x, 2, 10, 4, 10, 6);
    }

    private void orderOfTesting() {
        check.about("What is thrown is told in the order of testing");
        LineChunks x = Check.full(10);
        int[][] wrong = {{-1, 1}, {20001, 1}, {LEAST, 1}, {MOST, 1}, {0, 0}, {0, -1}, {0, 501}, {20000, 501},
            {0, MOST}, {20000, LEAST}, {-1, 501}, {20001, 0}, {MOST, MOST}, {LEAST, LEAST}};
        for (int[] w : wrong) {
            check.refused("insert(" + w[0] + ", 3, 0, " + w[1] + ") in full", RANGE, () -> x.insert(w[0], 3, 0, w[1]));
        }
        check.fullRow("full", x, 10);
        LineChunks y = Check.full(10);
        y.delete(0, 500);
        check.refused("insert of 501 beside 19500", RANGE, () -> y.insert(0, 3, 0, 501));
        check.refused("insert at 19501 beside 19500", RANGE, () -> y.insert(19501, 3, 0, 500));
        y.insert(19500, 10, 0, 1);
        check.refused("insert of 500 at 19502 beside 19501", RANGE, () -> y.insert(19502, 3, 0, 500));
        check.refused("insert of 500 beside 19501", FULL, () -> y.insert(19501, 3, 0, 500));
    }

    private void nothingChangesInNone() {
        check.about("a call that throws changes nothing");
        LineChunks x = new LineChunks();
        for (int index : new int[] {-1, 1, LEAST, MOST}) {
            check.refused("insert(" + index + ", 10, 0, 1)", RANGE, () -> x.insert(index, 10, 0, 1));
            check.row("insert refused in none", x);
            check.refused("lineOf(" + index + ")", RANGE, () -> x.lineOf(index));
            check.row("lineOf refused in none", x);
            check.refused("line(" + index + ")", NONE, () -> x.line(index));
            check.row("line refused in none", x);
            check.refused("delete(" + index + ", 1)", RANGE, () -> x.delete(index, 1));
            check.row("delete refused in none", x);
            check.refused("delete(0, " + index + ")", RANGE, () -> x.delete(0, index));
            check.row("delete refused in none", x);
        }
        check.refused("get(0)", NONE, () -> x.get(0));
        check.row("get refused in none", x);
    }

    private void nothingChangesInSome() {
        check.about("a call that throws changes nothing");
        for (int wrong : new int[] {-1, 5, LEAST, MOST}) {
            LineChunks x = new LineChunks();
            x.insert(0, 9, 1, 3);
            x.insert(3, 10, 0, 1);
            check.refused("insert(" + wrong + ", 10, 0, 2)", RANGE, () -> x.insert(wrong, 10, 0, 2));
            check.row("insert refused", x, 9, 10, 11, 10);
            check.refused("delete(" + wrong + ", 1)", RANGE, () -> x.delete(wrong, 1));
            check.row("delete refused", x, 9, 10, 11, 10);
            check.refused("delete(0, " + wrong + ")", RANGE, () -> x.delete(0, wrong));
            check.row("delete refused", x, 9, 10, 11, 10);
            check.refused("get(" + wrong + ")", NONE, () -> x.get(wrong));
            check.row("get refused", x, 9, 10, 11, 10);
            check.refused("line(" + wrong + ")", NONE, () -> x.line(wrong));
            check.row("line refused", x, 9, 10, 11, 10);
            check.refused("lineOf(" + wrong + ")", RANGE, () -> x.lineOf(wrong));
            check.row("lineOf refused", x, 9, 10, 11, 10);
        }
        for (int n : new int[] {0, -1, 501, LEAST, MOST}) {
            LineChunks x = new LineChunks();
            x.insert(0, 9, 1, 3);
            check.refused("insert(1, 10, 0, " + n + ")", RANGE, () -> x.insert(1, 10, 0, n));
            check.row("insert refused", x, 9, 10, 11);
            check.refused("delete(1, " + n + ")", RANGE, () -> x.delete(1, n));
            check.row("delete refused", x, 9, 10, 11);
        }
    }

    private void nothingChangesInFull() {
        check.about("a call that throws changes nothing");
        for (int value : new int[] {10, 3}) {
            LineChunks x = Check.full(value);
            int other = 13 - value;
            for (int index : new int[] {0, 10000, 20000}) {
                check.refused("insert(" + index + ", " + other + ", 0, 1)", FULL, () -> x.insert(index, other, 0, 1));
                check.fullRow("insert of one refused in full", x, value);
                check.refused("insert(" + index + ", " + other + ", 0, 500)", FULL, () -> x.insert(index, other, 0, 500));
                check.fullRow("insert of 500 refused in full", x, value);
            }
            check.refused("delete(0, 20001)", RANGE, () -> x.delete(0, 20001));
            check.fullRow("delete refused in full", x, value);
            check.refused("delete(19999, 2)", RANGE, () -> x.delete(19999, 2));
            check.fullRow("delete refused in full", x, value);
            check.refused("get(20000)", NONE, () -> x.get(20000));
            check.fullRow("get refused in full", x, value);
            check.refused("line(20001)", NONE, () -> x.line(20001));
            check.fullRow("line refused in full", x, value);
            check.refused("lineOf(20001)", RANGE, () -> x.lineOf(20001));
            check.fullRow("lineOf refused in full", x, value);
        }
    }

    private void nothingChangesBesideTooMany() {
        check.about("a call that throws changes nothing");
        LineChunks x = Check.full(3);
        x.delete(0, 1);
        // Those that would still fit must not come in when the others do not.
        check.refused("insert(0, 10, 0, 2) beside 19999", FULL, () -> x.insert(0, 10, 0, 2));
        check.same("length() beside 19999", 19999, x.length());
        check.same("lines() beside 19999", 1, x.lines());
        check.same("digest() beside 19999", (int) (3 * (19999L * 20000 / 2)), x.digest());
        check.same("get(0) beside 19999", 3, x.get(0));
        check.refused("get(19999) beside 19999", NONE, () -> x.get(19999));
        x.insert(0, 3, 0, 1);
        check.fullRow("one more beside 19999", x, 3);
    }

    private void refusedThenTaken() {
        check.about("a call that throws changes nothing");
        LineChunks x = new LineChunks();
        check.refused("insert(1, 10, 0, 2) in none", RANGE, () -> x.insert(1, 10, 0, 2));
        check.refused("delete(0, 1) in none", RANGE, () -> x.delete(0, 1));
        check.same("insert(0, 10, 0, 2)", 2, x.insert(0, 10, 0, 2));
        check.same("insert(1, 4, 0, 1)", 3, x.insert(1, 4, 0, 1));
        check.row("taken behind refused ones", x, 10, 4, 10);
        check.refused("delete(1, 3)", RANGE, () -> x.delete(1, 3));
        check.same("delete(1, 2)", 1, x.delete(1, 2));
        check.row("gone behind a refused one", x, 10);
    }

    private void outOfRange() {
        check.about("IllegalArgumentException: a number out of its range.");
        LineChunks x = new LineChunks();
        x.insert(0, 10, 0, 2);
        check.refused("insert, index and n both wrong", RANGE, () -> x.insert(-1, 0, 0, 0));
        check.refused("insert, index and n both too large", RANGE, () -> x.insert(3, 0, 0, 501));
        check.refused("delete, index and n both wrong", RANGE, () -> x.delete(-1, 0));
        check.refused("delete, index and n both too large", RANGE, () -> x.delete(3, 3));
        check.refused("lineOf, too small", RANGE, () -> x.lineOf(-1));
        check.refused("lineOf, too large", RANGE, () -> x.lineOf(3));
        // A value and a step have no range: every int is taken.
        check.same("insert(2, most, most, 2)", 4, x.insert(2, MOST, MOST, 2));
        check.same("insert(4, least, least, 2)", 6, x.insert(4, LEAST, LEAST, 2));
        check.row("any value and step", x, 10, 10, MOST, -2, LEAST, 0);
    }
}
