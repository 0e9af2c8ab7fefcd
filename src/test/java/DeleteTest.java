/** Promise 3: delete. */
public final class DeleteTest {
    private static final Class<IllegalArgumentException> RANGE = IllegalArgumentException.class;

    public static void main(String[] args) {
        Check check = new Check();
        places(check);
        ranges(check);
        fromFull(check);
        check.end();
    }

    private static void places(Check check) {
        LineChunks x = new LineChunks();
        x.insert(0, 6, 1, 8);
        x.insert(0, 10, 1, 2);
        check.row("before", x, 10, 11, 6, 7, 8, 9, 10, 11, 12, 13);
        check.same("delete(0, 1)", 9, x.delete(0, 1));
        check.row("the first", x, 11, 6, 7, 8, 9, 10, 11, 12, 13);
        check.same("delete(7, 2)", 7, x.delete(7, 2));
        check.row("the last two", x, 11, 6, 7, 8, 9, 10, 11);
        check.same("delete(1, 3)", 4, x.delete(1, 3));
        check.row("between", x, 11, 9, 10, 11);
        check.same("delete(2, 1)", 3, x.delete(2, 1));
        check.row("a line's end", x, 11, 9, 11);
        check.same("delete(0, 3)", 0, x.delete(0, 3));
        check.row("all", x);
        x.insert(0, 5, 5, 2);
        check.row("in again", x, 5, 10);
    }

    private static void ranges(Check check) {
        LineChunks x = new LineChunks();
        x.insert(0, 9, 1, 3);
        int most = Integer.MAX_VALUE;
        int least = Integer.MIN_VALUE;
        check.refused("delete(-1, 1)", RANGE, () -> x.delete(-1, 1));
        check.refused("delete(-1, 4)", RANGE, () -> x.delete(-1, 4));
        check.refused("delete(least, 1)", RANGE, () -> x.delete(least, 1));
        check.refused("delete(0, 0)", RANGE, () -> x.delete(0, 0));
        check.refused("delete(0, -1)", RANGE, () -> x.delete(0, -1));
        check.refused("delete(0, least)", RANGE, () -> x.delete(0, least));
        check.refused("delete(3, 0)", RANGE, () -> x.delete(3, 0));
        check.refused("delete(3, 1)", RANGE, () -> x.delete(3, 1));
        check.refused("delete(4, -1)", RANGE, () -> x.delete(4, -1));
        check.refused("delete(0, 4)", RANGE, () -> x.delete(0, 4));
        check.refused("delete(2, 2)", RANGE, () -> x.delete(2, 2));
        check.refused("delete(2, most)", RANGE, () -> x.delete(2, most));
        check.refused("delete(most, 1)", RANGE, () -> x.delete(most, 1));
        check.refused("delete(most, most)", RANGE, () -> x.delete(most, most));
        check.refused("delete(least, most)", RANGE, () -> x.delete(least, most));
        check.row("refused", x, 9, 10, 11);
    }

    private static void fromFull(Check check) {
        LineChunks x = Check.full(10);
        check.same("delete(1, 19998)", 2, x.delete(1, 19998));
        check.row("two of full", x, 10, 10);
        LineChunks y = Check.full(10);
        check.same("delete(0, 20000)", 0, y.delete(0, 20000));
        check.row("none of full", y);
    }
}
