/** Promise 5: length. */
public final class LengthTest {
    public static void main(String[] args) {
        Check check = new Check();
        LineChunks x = new LineChunks();
        check.same("length() of none", 0, x.length());
        x.insert(0, 10, 0, 5);
        check.same("length() of 5", 5, x.length());
        x.insert(2, 1, 1, 500);
        check.same("length() of 505", 505, x.length());
        x.delete(3, 499);
        check.same("length() of 6", 6, x.length());
        check.same("length() again", 6, x.length());
        x.delete(0, 6);
        check.same("length() of none again", 0, x.length());
        check.same("length() of full", 20000, Check.full(0).length());
        check.end();
    }
}
