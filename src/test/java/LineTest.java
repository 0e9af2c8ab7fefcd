import java.util.NoSuchElementException;

/** Promise 7: line. */
public final class LineTest {
    private static final Class<NoSuchElementException> NONE = NoSuchElementException.class;

    private final Check check = new Check();

    public static void main(String[] args) {
        LineTest test = new LineTest();
        test.begins();
        test.beginsBehindChanges();
        test.none();
        test.noLineEnd();
        test.tooSmallAndTooLarge();
        test.full();
        test.check.end();
    }

    /** 8 9 10 11 10 10: four lines, the last one empty. */
    private static LineChunks fourLines() {
        LineChunks x = new LineChunks();
        x.insert(0, 8, 1, 4);
        x.insert(4, 10, 0, 2);
        return x;
    }

    private void begins() {
        check.about("The index at which a line begins.");
        LineChunks x = fourLines();
        check.same("line(0)", 0, x.line(0));
        check.same("line(1)", 3, x.line(1));
        check.same("line(2)", 5, x.line(2));
        check.same("line(3), at the length", 6, x.line(3));
        check.row("looked at", x, 8, 9, 10, 11, 10, 10);
    }

    private void beginsBehindChanges() {
        check.about("The index at which a line begins: behind changes in front of it");
        LineChunks x = fourLines();
        x.delete(2, 1);
        check.same("line(1) behind a delete", 4, x.line(1));
        x.insert(0, 10, 0, 1);
        check.same("line(0) behind an insert", 0, x.line(0));
        check.same("line(1) behind an insert", 1, x.line(1));
        check.same("line(2) behind an insert", 5, x.line(2));
        x.delete(0, 6);
        check.refused("line(1) of none again", NONE, () -> x.line(1));
        check.same("line(0) of none again", 0, x.line(0));
    }

    private void none() {
        check.about("NoSuchElementException: there is no such line: in an empty row");
        LineChunks x = new LineChunks();
        check.same("line(0) of none", 0, x.line(0));
        for (int n : new int[] {1, -1, 2, Integer.MIN_VALUE, Integer.MAX_VALUE}) {
            check.refused("line(" + n + ") of none", NONE, () -> x.line(n));
        }
        check.row("looked at", x);
    }

    private void noLineEnd() {
        check.about("NoSuchElementException: there is no such line: without an element that ends one");
        LineChunks x = new LineChunks();
        x.insert(0, 11, 1, 3);
        check.same("line(0)", 0, x.line(0));
        for (int n : new int[] {1, 2, 3, 4, -1}) {
            check.refused("line(" + n + ")", NONE, () -> x.line(n));
        }
        LineChunks y = Check.full(11);
        check.same("line(0) of full", 0, y.line(0));
        check.refused("line(1) of full", NONE, () -> y.line(1));
    }

    private void tooSmallAndTooLarge() {
        check.about("NoSuchElementException: there is no such line: too small, too large");
        LineChunks x = fourLines();
        for (int n : new int[] {-1, -4, 4, 5, 6, 7, Integer.MIN_VALUE, Integer.MAX_VALUE}) {
            check.refused("line(" + n + ")", NONE, () -> x.line(n));
        }
        check.row("looked at", x, 8, 9, 10, 11, 10, 10);
    }

    private void full() {
        check.about("NoSuchElementException: there is no such line: in a full row");
        LineChunks x = Check.full(10);
        check.same("line(0) of full", 0, x.line(0));
        check.same("line(1) of full", 1, x.line(1));
        check.same("line(19999) of full", 19999, x.line(19999));
        check.same("line(20000) of full", 20000, x.line(20000));
        check.refused("line(20001) of full", NONE, () -> x.line(20001));
        check.refused("line(-1) of full", NONE, () -> x.line(-1));
        check.fullRow("looked at", x, 10);
    }
}
