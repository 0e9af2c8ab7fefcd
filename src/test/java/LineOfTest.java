/** Promise 8: lineOf. */
public final class LineOfTest {
    private static final Class<IllegalArgumentException> RANGE = IllegalArgumentException.class;

    public static void main(String[] args) {
        Check check = new Check();
        LineChunks x = new LineChunks();
        check.same("lineOf(0) of none", 0, x.lineOf(0));
        check.refused("lineOf(1) of none", RANGE, () -> x.lineOf(1));
        x.insert(0, 9, 1, 3);
        x.insert(3, 10, 0, 2);
        check.same("lineOf(0)", 0, x.lineOf(0));
        check.same("lineOf(1), a line's end itself", 0, x.lineOf(1));
        check.same("lineOf(2)", 1, x.lineOf(2));
        check.same("lineOf(3)", 1, x.lineOf(3));
        check.same("lineOf(4)", 2, x.lineOf(4));
        check.same("lineOf(5), the length", 3, x.lineOf(5));
        check.refused("lineOf(6)", RANGE, () -> x.lineOf(6));
        check.refused("lineOf(-1)", RANGE, () -> x.lineOf(-1));
        check.refused("lineOf(least)", RANGE, () -> x.lineOf(Integer.MIN_VALUE));
        check.refused("lineOf(most)", RANGE, () -> x.lineOf(Integer.MAX_VALUE));
        check.row("looked at", x, 9, 10, 11, 10, 10);
        x.delete(1, 1);
        check.same("lineOf(2) behind a delete", 0, x.lineOf(2));
        check.refused("lineOf(5) behind a delete", RANGE, () -> x.lineOf(5));

        LineChunks y = Check.full(10);
        check.same("lineOf(19999) of full", 19999, y.lineOf(19999));
        check.same("lineOf(20000) of full", 20000, y.lineOf(20000));
        check.refused("lineOf(20001) of full", RANGE, () -> y.lineOf(20001));
        check.end();
    }
}
