import java.util.NoSuchElementException;

/** Promise 1: a new object has no elements and one line. */
public final class NewObjectTest {
    public static void main(String[] args) {
        Check check = new Check();
        LineChunks x = new LineChunks();
        check.row("new", x);
        check.refused("get(0)", NoSuchElementException.class, () -> x.get(0));
        check.refused("line(1)", NoSuchElementException.class, () -> x.line(1));
        check.refused("lineOf(1)", IllegalArgumentException.class, () -> x.lineOf(1));
        check.refused("delete(0, 1)", IllegalArgumentException.class, () -> x.delete(0, 1));

        x.insert(0, 10, 0, 3);
        LineChunks y = new LineChunks();
        check.row("new beside a used one", y);
        y.insert(0, 7, 0, 1);
        check.row("the used one", x, 10, 10, 10);
        check.end();
    }
}
