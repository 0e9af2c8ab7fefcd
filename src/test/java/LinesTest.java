/** Promise 6: lines. */
public final class LinesTest {
    public static void main(String[] args) {
        Check check = new Check();
        check.about("How many lines there are: one more than elements that end lines.");
        emptyToSomeAndBack(check);
        full(check);
        wrapped(check);
        refused(check);
        check.end();
    }

    private static void emptyToSomeAndBack(Check check) {
        LineChunks x = new LineChunks();
        check.same("lines() of none", 1, x.lines());
        x.insert(0, 11, 1, 3);
        check.same("lines() without a line's end", 1, x.lines());
        x.insert(0, -10, 20, 2);
        check.same("lines() with one", 2, x.lines());
        x.insert(5, 10, 0, 2);
        check.same("lines() with three, one last", 4, x.lines());
        x.delete(0, 2);
        check.same("lines() with two", 3, x.lines());
        x.delete(0, 3);
        check.same("lines() of line ends alone", 3, x.lines());
        check.same("lines() again", 3, x.lines());
        x.delete(0, 2);
        check.same("lines() of none again", 1, x.lines());
    }

    private static void full(Check check) {
        LineChunks x = Check.full(10);
        check.same("lines() of full", 20001, x.lines());
        x.delete(0, 1);
        check.same("lines() of 19999", 20000, x.lines());
        x.delete(1, 19998);
        check.same("lines() of one", 2, x.lines());
        check.same("lines() of full without a line's end", 1, Check.full(11).lines());
    }

    private static void wrapped(Check check) {
        LineChunks x = new LineChunks();
        x.insert(0, 10, 1 << 24, 500);
        check.same("lines() where 10 comes back at index 256", 3, x.lines());
        x.delete(256, 1);
        check.same("lines() without the one at index 256", 2, x.lines());
    }

    private static void refused(Check check) {
        LineChunks x = new LineChunks();
        x.insert(0, 10, 0, 2);
        check.refused("insert beyond", IllegalArgumentException.class, () -> x.insert(3, 10, 0, 1));
        check.same("lines() behind a refused insert", 3, x.lines());
        check.refused("delete of too many", IllegalArgumentException.class, () -> x.delete(1, 2));
        check.same("lines() behind a refused delete", 3, x.lines());
        LineChunks y = Check.full(3);
        check.refused("insert in full", IllegalStateException.class, () -> y.insert(0, 10, 0, 1));
        check.same("lines() behind an insert refused in full", 1, y.lines());
    }
}
