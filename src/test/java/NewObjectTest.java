import java.util.NoSuchElementException;

/** Promise 1: a new object has no elements and one line. */
public final class NewObjectTest {
    public static void main(String[] args) {
        Check check = new Check();
        check.about("makes an object in the state that the terms give");
        everyFirstCall(check);
        besideOthers(check);
        check.end();
    }

    private static LineChunks made() {
        return new LineChunks();
    }

    /** Each call is the first one of its object, so that none leans on an earlier one. */
    private static void everyFirstCall(Check check) {
        check.same("length() of a new one", 0, made().length());
        check.same("lines() of a new one", 1, made().lines());
        check.same("digest() of a new one", 0, made().digest());
        check.same("line(0) of a new one", 0, made().line(0));
        check.same("lineOf(0) of a new one", 0, made().lineOf(0));
        check.same("insert(0, 10, 0, 1) into a new one", 1, made().insert(0, 10, 0, 1));
        check.same("insert(0, 10, 0, 500) into a new one", 500, made().insert(0, 10, 0, 500));
        check.refused("insert(1, 10, 0, 1) into a new one", IllegalArgumentException.class,
            () -> made().insert(1, 10, 0, 1));
        check.refused("get(0) of a new one", NoSuchElementException.class, () -> made().get(0));
        check.refused("line(1) of a new one", NoSuchElementException.class, () -> made().line(1));
        check.refused("lineOf(1) of a new one", IllegalArgumentException.class, () -> made().lineOf(1));
        check.refused("delete(0, 1) from a new one", IllegalArgumentException.class, () -> made().delete(0, 1));
        check.refused("delete(0, 0) from a new one", IllegalArgumentException.class, () -> made().delete(0, 0));
        check.row("new", made());
    }

    private static void besideOthers(Check check) {
        LineChunks x = made();
        x.insert(0, 10, 0, 3);
        LineChunks y = made();
        check.row("new beside a used one", y);
        y.insert(0, 7, 0, 1);
        check.row("the used one", x, 10, 10, 10);
        check.row("the newer one", y, 7);

        LineChunks full = Check.full(10);
        LineChunks z = made();
        check.row("new beside a full one", z);
        z.insert(0, 3, 0, 2);
        check.fullRow("the full one", full, 10);
        check.row("the one beside the full one", z, 3, 3);
    }
}
