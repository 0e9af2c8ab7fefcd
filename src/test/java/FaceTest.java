import java.lang.reflect.Constructor;
import java.lang.reflect.Field;
import java.lang.reflect.Method;
import java.lang.reflect.Modifier;
import java.util.Set;
import java.util.TreeSet;

/** The public face: every member of the document is there, and nothing else can be seen from outside. */
public final class FaceTest {
    private static final Set<String> DUE = Set.of(
        "public LineChunks()",
        "public int LineChunks.insert(int,int,int,int) throws java.lang.IllegalArgumentException,java.lang.IllegalStateException",
        "public int LineChunks.delete(int,int) throws java.lang.IllegalArgumentException",
        "public int LineChunks.get(int) throws java.util.NoSuchElementException",
        "public int LineChunks.length()",
        "public int LineChunks.lines()",
        "public int LineChunks.line(int) throws java.util.NoSuchElementException",
        "public int LineChunks.lineOf(int) throws java.lang.IllegalArgumentException",
        "public int LineChunks.digest()");

    public static void main(String[] args) {
        Set<String> seen = new TreeSet<>();
        for (Constructor<?> c : LineChunks.class.getDeclaredConstructors()) {
            note(seen, c.getModifiers(), c.toString());
        }
        for (Method m : LineChunks.class.getDeclaredMethods()) {
            note(seen, m.getModifiers(), m.toString());
        }
        for (Field f : LineChunks.class.getDeclaredFields()) {
            note(seen, f.getModifiers(), f.toString());
        }
        int modifiers = LineChunks.class.getModifiers();
        boolean right = seen.equals(DUE) && Modifier.isPublic(modifiers) && Modifier.isFinal(modifiers);
        System.out.println(right ? "the face is as due" : "the face is not as due: " + seen);
        if (!right) {
            System.exit(1);
        }
    }

    private static void note(Set<String> seen, int modifiers, String member) {
        if (!Modifier.isPrivate(modifiers)) {
            seen.add(member);
        }
    }
}
