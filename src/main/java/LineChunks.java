import java.util.Arrays;
import java.util.NoSuchElementException;

/** A long row of numbers in which some end lines. */
public final class LineChunks {
    private static final int LINE_END = 10;
    private static final int MOST_ELEMENTS = 20000;
    private static final int MOST_AT_ONCE = 500;
    private static final int FIRST_ROOM = 512;

    // The row is elements[0 .. count - 1]; what stands behind it is left over and never read.
    private int[] elements;
    private int count;
    private int lineEnds;

    public LineChunks() {
        // Room grows with the row, so that many short rows together stay small.
        elements = new int[FIRST_ROOM];
        count = 0;
        lineEnds = 0;
    }

    public int insert(int index, int value, int step, int n)
            throws IllegalArgumentException, IllegalStateException {
        if (index < 0 || index > count || n < 1 || n > MOST_AT_ONCE) {
            throw new IllegalArgumentException();
        }
        if (n > MOST_ELEMENTS - count) {
            throw new IllegalStateException();
        }
        makeRoomFor(count + n);
        moveTail(index, index + n);
        fill(index, value, step, n);
        lineEnds += lineEndsIn(index, index + n);
        return count;
    }

    public int delete(int index, int n) throws IllegalArgumentException {
        // Told as a difference, because index + n may wrap.
        if (index < 0 || n < 1 || index > count - n) {
            throw new IllegalArgumentException();
        }
        lineEnds -= lineEndsIn(index, index + n);
        moveTail(index + n, index);
        return count;
    }

    public int get(int index) throws NoSuchElementException {
        if (index < 0 || index >= count) {
            throw new NoSuchElementException();
        }
        return elements[index];
    }

    public int length() {
        return count;
    }

    public int lines() {
        return lineEnds + 1;
    }

    public int line(int n) throws NoSuchElementException {
        if (n < 0 || n > lineEnds) {
            throw new NoSuchElementException();
        }
        return indexBehindLineEnds(n);
    }

    public int lineOf(int index) throws IllegalArgumentException {
        if (index < 0 || index > count) {
            throw new IllegalArgumentException();
        }
        return lineEndsIn(0, index);
    }

    public int digest() {
        int sum = 0;
        for (int i = 0; i < count; i++) {
            sum += elements[i] * (i + 1);
        }
        return sum;
    }

    private void makeRoomFor(int needed) {
        if (needed <= elements.length) {
            return;
        }
        // Doubling keeps all the rows that one object ever makes under three times the longest.
        int doubled = Math.min(2 * elements.length, MOST_ELEMENTS);
        elements = Arrays.copyOf(elements, Math.max(needed, doubled));
    }

    // The end of the row goes with its tail, so that no caller can move one without the other.
    private void moveTail(int from, int to) {
        System.arraycopy(elements, from, elements, to, count - from);
        count += to - from;
    }

    private void fill(int index, int value, int step, int n) {
        int next = value;
        for (int i = index; i < index + n; i++) {
            elements[i] = next;
            next += step;
        }
    }

    private int lineEndsIn(int from, int to) {
        int found = 0;
        for (int i = from; i < to; i++) {
            if (elements[i] == LINE_END) {
                found++;
            }
        }
        return found;
    }

    private int indexBehindLineEnds(int n) {
        int index = 0;
        int found = 0;
        while (found < n && index < count) {
            if (elements[index] == LINE_END) {
                found++;
            }
            index++;
        }
        return index;
    }
}
