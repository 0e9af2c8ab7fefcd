/** Promise 2: insert. */
public final class InsertTest {
    private static final Class<IllegalArgumentException> RANGE = IllegalArgumentException.class;
    private static final Class<IllegalStateException> FULL = IllegalStateException.class;

    public static void main(String[] args) {
        Check check = new Check();
        places(check);
        wraps(check);
        ranges(check);
        mostAtOnce(check);
        mostElements(check);
        rangeBeforeFull(check);
        check.end();
    }

    private static void places(Check check) {
        LineChunks x = new LineChunks();
        check.same("insert(0, 8, 1, 4)", 4, x.insert(0, 8, 1, 4));
        check.row("into none", x, 8, 9, 10, 11);
        check.same("insert(0, 1, 9, 2)", 6, x.insert(0, 1, 9, 2));
        check.row("in front", x, 1, 10, 8, 9, 10, 11);
        check.same("insert(6, 10, -20, 2)", 8, x.insert(6, 10, -20, 2));
        check.row("behind", x, 1, 10, 8, 9, 10, 11, 10, -10);
        check.same("insert(3, 10, 0, 1)", 9, x.insert(3, 10, 0, 1));
        check.row("between", x, 1, 10, 8, 10, 9, 10, 11, 10, -10);
    }

    private static void wraps(Check check) {
        LineChunks x = new LineChunks();
        int most = Integer.MAX_VALUE;
        int least = Integer.MIN_VALUE;
        x.insert(0, most, 1, 3);
        check.row("up", x, most, least, least + 1);
        x.insert(3, least, -1, 2);
        check.row("down", x, most, least, least + 1, least, most);
        x.insert(0, 10, least, 3);
        check.row("by the least step", x, 10, least + 10, 10, most, least, least + 1, least, most);
    }

    private static void ranges(Check check) {
        LineChunks x = new LineChunks();
        x.insert(0, 9, 1, 3);
        check.refused("insert(-1, 0, 0, 1)", RANGE, () -> x.insert(-1, 0, 0, 1));
        check.refused("insert(4, 0, 0, 1)", RANGE, () -> x.insert(4, 0, 0, 1));
        check.refused("insert(least, 0, 0, 1)", RANGE, () -> x.insert(Integer.MIN_VALUE, 0, 0, 1));
        check.refused("insert(most, 0, 0, 1)", RANGE, () -> x.insert(Integer.MAX_VALUE, 0, 0, 1));
        check.refused("insert(0, 0, 0, 0)", RANGE, () -> x.insert(0, 0, 0, 0));
        check.refused("insert(0, 0, 0, -1)", RANGE, () -> x.insert(0, 0, 0, -1));
        check.refused("insert(0, 0, 0, 501)", RANGE, () -> x.insert(0, 0, 0, 501));
        check.refused("insert(0, 0, 0, least)", RANGE, () -> x.insert(0, 0, 0, Integer.MIN_VALUE));
        check.refused("insert(3, 0, 0, most)", RANGE, () -> x.insert(3, 0, 0, Integer.MAX_VALUE));
        check.row("refused", x, 9, 10, 11);
    }

    private static void mostAtOnce(Check check) {
        LineChunks x = new LineChunks();
        check.same("insert(0, 0, 1, 500)", 500, x.insert(0, 0, 1, 500));
        check.same("get(499)", 499, x.get(499));
        check.same("insert(1, -1, -1, 500)", 1000, x.insert(1, -1, -1, 500));
        check.same("get(0)", 0, x.get(0));
        check.same("get(1)", -1, x.get(1));
        check.same("get(500)", -500, x.get(500));
        check.same("get(501)", 1, x.get(501));
        check.same("get(999)", 499, x.get(999));
        check.same("line(1)", 511, x.line(1));
    }

    private static void mostElements(Check check) {
        LineChunks x = Check.full(3);
        int digest = x.digest();
        check.refused("insert(0, 10, 0, 1) in full", FULL, () -> x.insert(0, 10, 0, 1));
        check.refused("insert(20000, 10, 0, 500) in full", FULL, () -> x.insert(20000, 10, 0, 500));
        check.same("length() of full", 20000, x.length());
        check.same("lines() of full", 1, x.lines());
        check.same("digest() of full", digest, x.digest());

        x.delete(100, 7);
        check.refused("insert(5, 10, 0, 8) beside 19993", FULL, () -> x.insert(5, 10, 0, 8));
        check.same("digest() beside 19993", 3 * (19993 * 19994 / 2), x.digest());
        check.same("insert(5, 10, 0, 7) beside 19993", 20000, x.insert(5, 10, 0, 7));
        check.same("get(4)", 3, x.get(4));
        check.same("get(5)", 10, x.get(5));
        check.same("get(11)", 10, x.get(11));
        check.same("get(12)", 3, x.get(12));
        check.same("get(19999)", 3, x.get(19999));
        check.same("lines()", 8, x.lines());
    }

    private static void rangeBeforeFull(Check check) {
        LineChunks x = Check.full(3);
        check.refused("insert(20001, 0, 0, 1) in full", RANGE, () -> x.insert(20001, 0, 0, 1));
        check.refused("insert(-1, 0, 0, 1) in full", RANGE, () -> x.insert(-1, 0, 0, 1));
        check.refused("insert(0, 0, 0, 0) in full", RANGE, () -> x.insert(0, 0, 0, 0));
        check.refused("insert(0, 0, 0, 501) in full", RANGE, () -> x.insert(0, 0, 0, 501));
    }
}
