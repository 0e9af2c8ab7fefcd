/** Promise 8: lineOf. */
public final class LineOfTest {
    private static final Class<IllegalArgumentException> RANGE = IllegalArgumentException.class;

    private final Check check = new Check();

    public static void main(String[] args) {
        LineOfTest test = new LineOfTest();
        test.inFrontOfIt();
        test.atTheLength();
        test.none();
        test.tooSmallAndTooLarge();
        test.full();
        test.behindDelete();
        test.check.end();
    }

    /** 9 10 11 10 10 */
    private static LineChunks fourLines() {
        LineChunks x = new LineChunks();
        x.insert(0, 9, 1, 3);
        x.insert(3, 10, 0, 2);
        return x;
    }

    private void inFrontOfIt() {
        check.about("how many elements in front of it end lines");
        LineChunks x = fourLines();
        check.same("lineOf(0)", 0, x.lineOf(0));
        check.same("lineOf(1), a line's end itself", 0, x.lineOf(1));
        check.same("lineOf(2)", 1, x.lineOf(2));
        check.same("lineOf(3)", 1, x.lineOf(3));
        check.same("lineOf(4)", 2, x.lineOf(4));
        LineChunks y = new LineChunks();
        y.insert(0, 10, 0, 1);
        check.same("lineOf(0), a line's end itself", 0, y.lineOf(0));
        check.row("looked at", x, 9, 10, 11, 10, 10);
    }

    private void atTheLength() {
        check.about("an index (0 .. length): the length");
        LineChunks x = fourLines();
        check.same("lineOf(5), behind a line's end", 3, x.lineOf(5));
        x.insert(5, 4, 0, 1);
        check.same("lineOf(6), behind another", 3, x.lineOf(6));
        LineChunks y = new LineChunks();
        y.insert(0, 11, 0, 2);
        check.same("lineOf(2) without a line's end", 0, y.lineOf(2));
    }

    private void none() {
        check.about("an index (0 .. length): in an empty row");
        LineChunks x = new LineChunks();
        check.same("lineOf(0) of none", 0, x.lineOf(0));
        for (int index : new int[] {1, -1, 2, 512, 513, Integer.MIN_VALUE, Integer.MAX_VALUE}) {
            check.refused("lineOf(" + index + ") of none", RANGE, () -> x.lineOf(index));
        }
        check.row("looked at", x);
    }

    private void tooSmallAndTooLarge() {
        check.about("an index (0 .. length): too small, too large");
        LineChunks x = fourLines();
        for (int index : new int[] {-1, -5, 6, 7, 512, 513, 20000, Integer.MIN_VALUE, Integer.MAX_VALUE}) {
            check.refused("lineOf(" + index + ")", RANGE, () -> x.lineOf(index));
        }
        check.row("looked at", x, 9, 10, 11, 10, 10);
    }

    private void full() {
        check.about("an index (0 .. length): in a full row");
        LineChunks x = Check.full(10);
        check.same("lineOf(0) of full", 0, x.lineOf(0));
        check.same("lineOf(19999) of full", 19999, x.lineOf(19999));
        check.same("lineOf(20000) of full", 20000, x.lineOf(20000));
        check.refused("lineOf(20001) of full", RANGE, () -> x.lineOf(20001));
        check.refused("lineOf(-1) of full", RANGE, () -> x.lineOf(-1));
        check.fullRow("looked at", x, 10);
    }

    private void behindDelete() {
        check.about("an index (0 .. length): where the length has become less");
        LineChunks x = fourLines();
        x.delete(1, 1);
        check.same("lineOf(2)", 0, x.lineOf(2));
        check.same("lineOf(4), the length", 2, x.lineOf(4));
        check.refused("lineOf(5)", RANGE, () -> x.lineOf(5));
    }
}
