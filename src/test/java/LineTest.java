import java.util.NoSuchElementException;

/** Promise 7: line. */
public final class LineTest {
    private static final Class<NoSuchElementException> NONE = NoSuchElementException.class;

    public static void main(String[] args) {
        Check check = new Check();
        LineChunks x = new LineChunks();
        check.same("line(0) of none", 0, x.line(0));
        check.refused("line(1) of none", NONE, () -> x.line(1));
        x.insert(0, 8, 1, 4);
        x.insert(4, 10, 0, 2);
        check.same("line(0)", 0, x.line(0));
        check.same("line(1)", 3, x.line(1));
        check.same("line(2)", 5, x.line(2));
        check.same("line(3), at the length", 6, x.line(3));
        check.refused("line(4)", NONE, () -> x.line(4));
        check.refused("line(-1)", NONE, () -> x.line(-1));
        check.refused("line(least)", NONE, () -> x.line(Integer.MIN_VALUE));
        check.refused("line(most)", NONE, () -> x.line(Integer.MAX_VALUE));
        check.row("looked at", x, 8, 9, 10, 11, 10, 10);
        x.delete(2, 1);
        check.same("line(1) behind a delete", 4, x.line(1));
        x.insert(0, 10, 0, 1);
        check.same("line(0) behind an insert", 0, x.line(0));
        check.same("line(1) behind an insert", 1, x.line(1));
        check.same("line(2) behind an insert", 5, x.line(2));
        x.delete(0, 6);
        check.refused("line(1) of none again", NONE, () -> x.line(1));

        LineChunks y = Check.full(10);
        check.same("line(20000) of full", 20000, y.line(20000));
        check.refused("line(20001) of full", NONE, () -> y.line(20001));
        check.end();
    }
}
