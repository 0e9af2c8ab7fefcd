import java.util.NoSuchElementException;

/** Promise 4: get. */
public final class GetTest {
    private static final Class<NoSuchElementException> NONE = NoSuchElementException.class;

    private final Check check = new Check();

    public static void main(String[] args) {
        GetTest test = new GetTest();
        test.some();
        test.none();
        test.tooSmallAndTooLarge();
        test.full();
        test.behindDelete();
        test.check.end();
    }

    private void some() {
        check.about("The element at an index.");
        LineChunks x = new LineChunks();
        x.insert(0, 9, 1, 3);
        check.same("get(0), the first", 9, x.get(0));
        check.same("get(1)", 10, x.get(1));
        check.same("get(2), the last", 11, x.get(2));
        check.row("looked at", x, 9, 10, 11);
    }

    private void none() {
        check.about("NoSuchElementException: there is none: in an empty row");
        LineChunks x = new LineChunks();
        for (int index : new int[] {0, -1, 1, 511, 512, Integer.MIN_VALUE, Integer.MAX_VALUE}) {
            check.refused("get(" + index + ")", NONE, () -> x.get(index));
        }
        check.row("looked at", x);
    }

    private void tooSmallAndTooLarge() {
        check.about("NoSuchElementException: there is none: too small, too large");
        LineChunks x = new LineChunks();
        x.insert(0, 9, 1, 3);
        for (int index : new int[] {-1, -3, 3, 4, 511, 512, 20000, Integer.MIN_VALUE, Integer.MAX_VALUE}) {
            check.refused("get(" + index + ")", NONE, () -> x.get(index));
        }
        check.row("looked at", x, 9, 10, 11);
    }

    private void full() {
        check.about("NoSuchElementException: there is none: in a full row");
        LineChunks x = Check.full(4);
        check.same("get(0) of full", 4, x.get(0));
        check.same("get(19999) of full", 4, x.get(19999));
        check.refused("get(20000) of full", NONE, () -> x.get(20000));
        check.refused("get(-1) of full", NONE, () -> x.get(-1));
        check.fullRow("looked at", x, 4);
    }

    private void behindDelete() {
        check.about("NoSuchElementException: there is none: any more");
        LineChunks x = new LineChunks();
        x.insert(0, 9, 1, 3);
        x.delete(1, 2);
        check.same("get(0) of one", 9, x.get(0));
        check.refused("get(1) of one", NONE, () -> x.get(1));
        x.delete(0, 1);
        check.refused("get(0) of none again", NONE, () -> x.get(0));
    }
}
