/** Promise 5: length. */
public final class LengthTest {
    public static void main(String[] args) {
        Check check = new Check();
        check.about("How many elements there are.");
        emptyToSomeAndBack(check);
        full(check);
        refused(check);
        check.end();
    }

    private static void emptyToSomeAndBack(Check check) {
        LineChunks x = new LineChunks();
        check.same("length() of none", 0, x.length());
        x.insert(0, 10, 0, 5);
        check.same("length() of 5", 5, x.length());
        x.insert(2, 1, 1, 500);
        check.same("length() of 505", 505, x.length());
        x.delete(3, 499);
        check.same("length() of 6", 6, x.length());
        check.same("length() again", 6, x.length());
        x.delete(0, 6);
        check.same("length() of none again", 0, x.length());
    }

    private static void full(Check check) {
        LineChunks x = Check.full(0);
        check.same("length() of full", 20000, x.length());
        check.refused("insert in full", IllegalStateException.class, () -> x.insert(0, 0, 0, 1));
        check.same("length() of full still", 20000, x.length());
        x.delete(0, 1);
        check.same("length() of 19999", 19999, x.length());
    }

    private static void refused(Check check) {
        LineChunks x = new LineChunks();
        check.refused("delete of none", IllegalArgumentException.class, () -> x.delete(0, 1));
        check.same("length() behind a refused delete", 0, x.length());
        check.refused("insert of none", IllegalArgumentException.class, () -> x.insert(0, 1, 1, 0));
        check.refused("insert of 501", IllegalArgumentException.class, () -> x.insert(0, 1, 1, 501));
        check.same("length() behind refused inserts", 0, x.length());
    }
}
