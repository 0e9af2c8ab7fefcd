import java.util.NoSuchElementException;

/** Promise 3: delete. */
public final class DeleteTest {
    private static final Class<IllegalArgumentException> RANGE = IllegalArgumentException.class;
    private static final int MOST = Integer.MAX_VALUE;
    private static final int LEAST = Integer.MIN_VALUE;

    private final Check check = new Check();

    public static void main(String[] args) {
        DeleteTest test = new DeleteTest();
        test.places();
        test.fewest();
        test.tooFew();
        test.all();
        test.allOfFull();
        test.moreThanAnInsertBrings();
        test.noneThere();
        test.notAllThere();
        test.indexTooSmall();
        test.indexTooLarge();
        test.sumsThatWrap();
        test.notAllThereInFull();
        test.goneIsGone();
        test.answersTheLength();
        test.check.end();
    }

    /** 9 10 11 */
    private static LineChunks three() {
        LineChunks x = new LineChunks();
        x.insert(0, 9, 1, 3);
        return x;
    }

    private void refusedOfThree(int index, int n) {
        LineChunks x = three();
        check.refused("delete(" + index + ", " + n + ")", RANGE, () -> x.delete(index, n));
        check.row("delete(" + index + ", " + n + ") refused", x, 9, 10, 11);
    }

    private void places() {
        check.about("elements from an index on go");
        LineChunks x = new LineChunks();
        x.insert(0, 6, 1, 8);
        x.insert(0, 10, 1, 2);
        check.row("before", x, 10, 11, 6, 7, 8, 9, 10, 11, 12, 13);
        x.delete(0, 1);
        check.row("the first", x, 11, 6, 7, 8, 9, 10, 11, 12, 13);
        x.delete(7, 2);
        check.row("the last two", x, 11, 6, 7, 8, 9, 10, 11);
        x.delete(1, 3);
        check.row("between", x, 11, 9, 10, 11);
        x.delete(2, 1);
        check.row("a line's end", x, 11, 9, 11);
        x.delete(0, 3);
        check.row("all", x);
        x.insert(0, 5, 5, 2);
        check.row("in again", x, 5, 10);
    }

    private void fewest() {
        check.about("n (1 or above): 1");
        for (int index = 0; index < 3; index++) {
            check.same("delete(" + index + ", 1)", 2, three().delete(index, 1));
        }
        LineChunks x = new LineChunks();
        x.insert(0, 10, 0, 1);
        check.same("delete(0, 1) of one", 0, x.delete(0, 1));
        check.row("the only one", x);
    }

    private void tooFew() {
        check.about("n (1 or above): below 1");
        for (int n : new int[] {0, -1, -2, -3, -4, LEAST, LEAST + 1, LEAST + 3, -MOST}) {
            for (int index = 0; index <= 4; index++) {
                refusedOfThree(index, n);
            }
        }
    }

    private void all() {
        check.about("n (1 or above) elements from an index on: all that are there");
        LineChunks x = three();
        check.same("delete(0, 3)", 0, x.delete(0, 3));
        check.row("all", x);
        LineChunks y = three();
        check.same("delete(1, 2)", 1, y.delete(1, 2));
        check.row("all behind the first", y, 9);
        LineChunks z = three();
        check.same("delete(2, 1)", 2, z.delete(2, 1));
        check.row("the last", z, 9, 10);
    }

    private void allOfFull() {
        check.about("n (1 or above) elements from an index on: all of a full row");
        LineChunks x = Check.full(10);
        check.same("delete(1, 19998)", 2, x.delete(1, 19998));
        check.row("two of full", x, 10, 10);
        LineChunks y = Check.full(10);
        check.same("delete(0, 20000)", 0, y.delete(0, 20000));
        check.row("none of full", y);
        LineChunks z = Check.full(10);
        check.same("delete(19999, 1)", 19999, z.delete(19999, 1));
        check.same("lines() without the last", 20000, z.lines());
    }

    private void moreThanAnInsertBrings() {
        check.about("n (1 or above): above 500");
        LineChunks x = new LineChunks();
        x.insert(0, 0, 1, 500);
        x.insert(500, 500, 1, 500);
        check.same("delete(1, 501)", 499, x.delete(1, 501));
        check.same("get(0)", 0, x.get(0));
        check.same("get(1)", 502, x.get(1));
        check.same("get(498)", 999, x.get(498));
        check.same("lines()", 1, x.lines());
    }

    private void noneThere() {
        check.about("all of them there (else an argument is out of its range): none are");
        LineChunks x = new LineChunks();
        int[][] wrong = {{0, 1}, {0, 0}, {0, -1}, {0, 500}, {1, 1}, {-1, 1}, {1, -1}, {1, 0}, {0, MOST}, {MOST, 1},
            {LEAST, 1}, {0, LEAST}, {LEAST, LEAST}, {MOST, MOST}, {LEAST, MOST}, {MOST, LEAST}};
        for (int[] w : wrong) {
            check.refused("delete(" + w[0] + ", " + w[1] + ") of none", RANGE, () -> x.delete(w[0], w[1]));
        }
        check.row("refused in none", x);
        x.insert(0, 10, 0, 2);
        x.delete(0, 2);
        check.refused("delete(0, 1) of none again", RANGE, () -> x.delete(0, 1));
        check.row("refused in none again", x);
    }

    private void notAllThere() {
        check.about("all of them there (else an argument is out of its range): the last one is not");
        refusedOfThree(0, 4);
        refusedOfThree(1, 3);
        refusedOfThree(2, 2);
        refusedOfThree(3, 1);
        refusedOfThree(0, 512);
        refusedOfThree(0, 20000);
    }

    private void indexTooSmall() {
        check.about("all of them there (else an argument is out of its range): the first one is not");
        refusedOfThree(-1, 1);
        refusedOfThree(-1, 2);
        refusedOfThree(-1, 4);
        refusedOfThree(-3, 3);
        refusedOfThree(LEAST, 1);
        refusedOfThree(LEAST, MOST);
    }

    private void indexTooLarge() {
        check.about("all of them there (else an argument is out of its range): the index is beyond");
        refusedOfThree(4, 1);
        refusedOfThree(3, 0);
        refusedOfThree(4, 0);
        refusedOfThree(4, -1);
        refusedOfThree(512, 1);
        refusedOfThree(MOST, 1);
    }

    private void sumsThatWrap() {
        check.about("all of them there (else an argument is out of its range): index + n wraps");
        refusedOfThree(1, MOST);
        refusedOfThree(2, MOST);
        refusedOfThree(2, MOST - 1);
        refusedOfThree(3, MOST);
        refusedOfThree(MOST, 2);
        refusedOfThree(MOST, MOST);
        refusedOfThree(LEAST, LEAST);
        refusedOfThree(-1, LEAST);
        refusedOfThree(-1, -1);
    }

    private void notAllThereInFull() {
        check.about("all of them there (else an argument is out of its range): of a full row");
        LineChunks x = Check.full(10);
        check.refused("delete(0, 20001)", RANGE, () -> x.delete(0, 20001));
        check.refused("delete(1, 20000)", RANGE, () -> x.delete(1, 20000));
        check.refused("delete(19999, 2)", RANGE, () -> x.delete(19999, 2));
        check.refused("delete(20000, 1)", RANGE, () -> x.delete(20000, 1));
        check.refused("delete(-1, 20000)", RANGE, () -> x.delete(-1, 20000));
        check.refused("delete(20000, most)", RANGE, () -> x.delete(20000, MOST));
        check.fullRow("refused in full", x, 10);
    }

    private void goneIsGone() {
        check.about("elements go");
        LineChunks x = three();
        x.delete(1, 2);
        check.refused("get(1)", NoSuchElementException.class, () -> x.get(1));
        check.refused("line(1)", NoSuchElementException.class, () -> x.line(1));
        check.refused("lineOf(2)", RANGE, () -> x.lineOf(2));
        check.refused("delete(1, 1) once more", RANGE, () -> x.delete(1, 1));
        x.insert(1, 12, 0, 1);
        check.row("another in its place", x, 9, 12);
    }

    private void answersTheLength() {
        check.about("answers the length");
        LineChunks x = new LineChunks();
        x.insert(0, 9, 1, 20);
        check.same("delete(0, 1)", 19, x.delete(0, 1));
        check.same("delete(18, 1)", 18, x.delete(18, 1));
        check.same("delete(2, 10)", 8, x.delete(2, 10));
        check.same("delete(0, 8)", 0, x.delete(0, 8));
    }
}
