import java.util.NoSuchElementException;

/** Promise 4: get. */
public final class GetTest {
    private static final Class<NoSuchElementException> NONE = NoSuchElementException.class;

    public static void main(String[] args) {
        Check check = new Check();
        LineChunks x = new LineChunks();
        check.refused("get(0) of none", NONE, () -> x.get(0));
        x.insert(0, 9, 1, 3);
        check.same("get(0)", 9, x.get(0));
        check.same("get(1)", 10, x.get(1));
        check.same("get(2)", 11, x.get(2));
        check.refused("get(-1)", NONE, () -> x.get(-1));
        check.refused("get(3)", NONE, () -> x.get(3));
        check.refused("get(least)", NONE, () -> x.get(Integer.MIN_VALUE));
        check.refused("get(most)", NONE, () -> x.get(Integer.MAX_VALUE));
        x.delete(1, 2);
        check.same("get(0) of one", 9, x.get(0));
        check.refused("get(1) of one", NONE, () -> x.get(1));
        check.row("looked at", x, 9);

        LineChunks y = Check.full(4);
        check.same("get(19999) of full", 4, y.get(19999));
        check.refused("get(20000) of full", NONE, () -> y.get(20000));
        check.end();
    }
}
