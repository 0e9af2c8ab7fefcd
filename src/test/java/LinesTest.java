/** Promise 6: lines. */
public final class LinesTest {
    public static void main(String[] args) {
        Check check = new Check();
        LineChunks x = new LineChunks();
        check.same("lines() of none", 1, x.lines());
        x.insert(0, 11, 1, 3);
        check.same("lines() without a line's end", 1, x.lines());
        x.insert(0, -10, 20, 2);
        check.same("lines() with one", 2, x.lines());
        x.insert(5, 10, 0, 2);
        check.same("lines() with three, one last", 4, x.lines());
        x.delete(0, 2);
        check.same("lines() with two", 3, x.lines());
        x.delete(0, 3);
        check.same("lines() of line ends alone", 3, x.lines());
        x.delete(0, 2);
        check.same("lines() of none again", 1, x.lines());
        check.same("lines() of full", 20001, Check.full(10).lines());
        check.end();
    }
}
