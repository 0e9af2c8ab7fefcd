/** Promise 9: digest. */
public final class DigestTest {
    private static final int MOST = Integer.MAX_VALUE;
    private static final int LEAST = Integer.MIN_VALUE;

    private final Check check = new Check();

    public static void main(String[] args) {
        DigestTest test = new DigestTest();
        test.eachTimesItsIndex();
        test.empty();
        test.productsThatWrap();
        test.sumsThatWrap();
        test.full();
        test.refused();
        test.check.end();
    }

    private static LineChunks of(int... elements) {
        LineChunks x = new LineChunks();
        for (int i = 0; i < elements.length; i++) {
            x.insert(i, elements[i], 0, 1);
        }
        return x;
    }

    private void eachTimesItsIndex() {
        check.about("The sum of all elements, each times its index + 1.");
        LineChunks x = of(5, 6, 7);
        check.same("digest() of 5 6 7", 5 + 12 + 21, x.digest());
        check.same("digest() again", 38, x.digest());
        x.insert(0, -2, 0, 1);
        check.same("digest() of -2 5 6 7", -2 + 10 + 18 + 28, x.digest());
        x.delete(1, 2);
        check.same("digest() of -2 7", 12, x.digest());
        check.same("digest() of one, at index 0", 10, of(10).digest());
    }

    private void empty() {
        check.about("The sum of all elements: none");
        check.same("digest() of none", 0, new LineChunks().digest());
        LineChunks x = of(7, 10);
        x.delete(0, 2);
        check.same("digest() of none again", 0, x.digest());
        check.same("digest() of zeros", 0, of(0, 0, 0).digest());
    }

    private void productsThatWrap() {
        check.about("The sum (wrapping) of all elements, each times its index + 1: a product wraps");
        check.same("digest() of 0 most", -2, of(0, MOST).digest());
        check.same("digest() of 0 least", 0, of(0, LEAST).digest());
        check.same("digest() of 0 0 least", LEAST, of(0, 0, LEAST).digest());
        check.same("digest() of 0 0 most", MOST - 2, of(0, 0, MOST).digest());
    }

    private void sumsThatWrap() {
        check.about("The sum (wrapping) of all elements: the sum wraps");
        check.same("digest() of most 1", LEAST + 1, of(MOST, 1).digest());
        check.same("digest() of least -1", MOST - 1, of(LEAST, -1).digest());
        check.same("digest() of most most", MOST - 2, of(MOST, MOST).digest());
        check.same("digest() of most most least", -3, of(MOST, MOST, LEAST).digest());
        check.same("digest() that stays at the largest", MOST, of(MOST, 0).digest());
        check.same("digest() that stays at the least", LEAST, of(LEAST, 0).digest());
    }

    private void full() {
        check.about("The sum (wrapping) of all elements: of a full row");
        for (int value : new int[] {1, 10, 1000003, MOST, LEAST, -1}) {
            check.same("digest() of full of " + value, (int) (value * 200010000L), Check.full(value).digest());
        }
        LineChunks x = Check.full(0);
        x.delete(0, 1);
        x.insert(19999, 7, 0, 1);
        check.same("digest() of 7 at the last index", 140000, x.digest());
    }

    private void refused() {
        check.about("The sum of all elements: those of a refused call are not among them");
        LineChunks x = of(5, 6, 7);
        check.refused("insert beyond", IllegalArgumentException.class, () -> x.insert(4, 9, 0, 1));
        check.refused("delete of too many", IllegalArgumentException.class, () -> x.delete(1, 3));
        check.same("digest() of 5 6 7", 38, x.digest());
        LineChunks y = Check.full(1);
        check.refused("insert in full", IllegalStateException.class, () -> y.insert(0, 9, 0, 1));
        check.same("digest() of full", 200010000, y.digest());
    }
}
