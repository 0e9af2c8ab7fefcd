import java.util.ArrayList;
import java.util.List;
import java.util.NoSuchElementException;
import java.util.Random;

/** Promises 2 to 9 together: runs of 512 calls, wrong ones among them, beside a plain list of the same numbers. */
public final class LongRunsTest {
    private static final int RUNS = 300;
    private static final int CALLS = 512;
    private static final int[] VALUES = {10, 10, 9, 0, -7, 11, 1000003, Integer.MAX_VALUE, Integer.MIN_VALUE};
    private static final int[] STEPS = {0, 0, 1, -1, 5, Integer.MIN_VALUE, 123456789};

    private final Check check;
    private final Random random;
    private final String name;
    private final int inserts;
    private final LineChunks x = new LineChunks();
    private final List<Integer> row = new ArrayList<>();

    private LongRunsTest(Check check, int run) {
        this.check = check;
        // The seed is fixed, so that a fault is told again by the next run of the test.
        random = new Random(run);
        name = "run " + run + ": ";
        inserts = 10 + run % 3 * 25;
    }

    public static void main(String[] args) {
        Check check = new Check();
        for (int run = 0; run < RUNS; run++) {
            LongRunsTest test = new LongRunsTest(check, run);
            for (int i = 0; i < CALLS; i++) {
                test.call();
            }
        }
        check.end();
    }

    private void call() {
        if (random.nextInt(100) < inserts) {
            insert(number(row.size()), pick(VALUES), pick(STEPS), atOnce());
            return;
        }
        switch (random.nextInt(8)) {
            case 0 -> delete(number(row.size()), random.nextInt(4) == 0 ? number(row.size()) : atOnce());
            case 1 -> get(number(row.size()));
            case 2 -> check.same(name + "length()", row.size(), x.length());
            case 3 -> check.same(name + "lines()", lineEnds(row.size()) + 1, x.lines());
            case 4 -> line(number(lineEnds(row.size())));
            case 5, 6 -> lineOf(number(row.size()));
            default -> check.same(name + "digest()", digest(), x.digest());
        }
    }

    /** Mostly 0 .. most, now and then its edges and what is beyond them. */
    private int number(int most) {
        switch (random.nextInt(24)) {
            case 0: return -1;
            case 1: return most + 1;
            case 2: return most;
            case 3: return 0;
            case 4: return random.nextInt();
            default: return random.nextInt(most + 1);
        }
    }

    private int atOnce() {
        switch (random.nextInt(12)) {
            case 0: return 0;
            case 1: return 501;
            case 2: return 500;
            case 3: return 1;
            case 4: case 5: case 6: return 1 + random.nextInt(20);
            default: return 1 + random.nextInt(500);
        }
    }

    private int pick(int[] from) {
        return from[random.nextInt(from.length)];
    }

    private void insert(int index, int value, int step, int n) {
        String call = name + "insert(" + index + ", " + value + ", " + step + ", " + n + ")";
        if (index < 0 || index > row.size() || n < 1 || n > 500) {
            check.refused(call, IllegalArgumentException.class, () -> x.insert(index, value, step, n));
        } else if (row.size() + n > 20000) {
            check.refused(call, IllegalStateException.class, () -> x.insert(index, value, step, n));
        } else {
            List<Integer> more = new ArrayList<>();
            for (int i = 0; i < n; i++) {
                more.add(value + i * step);
            }
            row.addAll(index, more);
            check.same(call, row.size(), x.insert(index, value, step, n));
        }
    }

    private void delete(int index, int n) {
        String call = name + "delete(" + index + ", " + n + ")";
        if (index < 0 || n < 1 || (long) index + n > row.size()) {
            check.refused(call, IllegalArgumentException.class, () -> x.delete(index, n));
        } else {
            row.subList(index, index + n).clear();
            check.same(call, row.size(), x.delete(index, n));
        }
    }

    private void get(int index) {
        String call = name + "get(" + index + ")";
        if (index < 0 || index >= row.size()) {
            check.refused(call, NoSuchElementException.class, () -> x.get(index));
        } else {
            check.same(call, row.get(index), x.get(index));
        }
    }

    private void line(int n) {
        String call = name + "line(" + n + ")";
        if (n < 0 || n > lineEnds(row.size())) {
            check.refused(call, NoSuchElementException.class, () -> x.line(n));
            return;
        }
        int start = 0;
        for (int i = 0; i < n; i++) {
            start += 1 + row.subList(start, row.size()).indexOf(10);
        }
        check.same(call, start, x.line(n));
    }

    private void lineOf(int index) {
        String call = name + "lineOf(" + index + ")";
        if (index < 0 || index > row.size()) {
            check.refused(call, IllegalArgumentException.class, () -> x.lineOf(index));
        } else {
            check.same(call, lineEnds(index), x.lineOf(index));
        }
    }

    private int lineEnds(int before) {
        int found = 0;
        for (int element : row.subList(0, before)) {
            found += element == 10 ? 1 : 0;
        }
        return found;
    }

    private int digest() {
        long sum = 0;
        for (int i = 0; i < row.size(); i++) {
            sum += (long) row.get(i) * (i + 1);
        }
        return (int) sum;
    }
}
