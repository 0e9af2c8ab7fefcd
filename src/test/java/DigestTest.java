/** Promise 9: digest. */
public final class DigestTest {
    public static void main(String[] args) {
        Check check = new Check();
        LineChunks x = new LineChunks();
        check.same("digest() of none", 0, x.digest());
        x.insert(0, 5, 1, 3);
        check.same("digest() of 5 6 7", 5 + 12 + 21, x.digest());
        check.same("digest() again", 38, x.digest());
        x.insert(0, -2, 0, 1);
        check.same("digest() of -2 5 6 7", -2 + 10 + 18 + 28, x.digest());
        x.delete(1, 2);
        check.same("digest() of -2 7", 12, x.digest());
        x.delete(0, 2);
        check.same("digest() of none again", 0, x.digest());

        x.insert(0, Integer.MAX_VALUE, 0, 2);
        check.same("digest(), wrapping in the product and in the sum", Integer.MAX_VALUE - 2, x.digest());
        x.insert(2, Integer.MIN_VALUE, 0, 1);
        check.same("digest(), wrapping below", -3, x.digest());
        check.same("digest() of full", (int) (1000003L * 200010000L), Check.full(1000003).digest());
        check.end();
    }
}
