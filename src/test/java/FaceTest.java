import java.lang.reflect.Constructor;
import java.lang.reflect.Field;
import java.lang.reflect.Method;
import java.lang.reflect.Modifier;
import java.util.Set;
import java.util.TreeSet;

/** The public face and LANGUAGE.md's rules 1 and 5: the document's members, nothing else seen, no static state. */
public final class FaceTest {
    private static final Set<String> DUE = Set.of(
        "public LineChunks()",
        "public int LineChunks.insert(int,int,int,int) throws java.lang.IllegalArgumentException,java.lang.IllegalStateException",
        "public int LineChunks.delete(int,int) throws java.lang.IllegalArgumentException",
        "public int LineChunks.get(int) throws java.util.NoSuchElementException",
        "public int LineChunks.length()",
        "public int LineChunks.lines()",
        "public int LineChunks.line(int) throws java.util.NoSuchElementException",
        "public int LineChunks.lineOf(int) throws java.lang.IllegalArgumentException",
        "public int LineChunks.digest()");

    public static void main(String[] args) {
        Set<String> seen = new TreeSet<>();
        for (Constructor<?> c : LineChunks.class.getDeclaredConstructors()) {
            note(seen, c.getModifiers(), c.toString());
        }
        for (Method m : LineChunks.class.getDeclaredMethods()) {
            note(seen, m.getModifiers(), m.toString());
        }
        for (Field f : LineChunks.class.getDeclaredFields()) {
            note(seen, f.getModifiers(), f.toString());
        }
        int modifiers = LineChunks.class.getModifiers();
        boolean right = seen.equals(DUE) && Modifier.isPublic(modifiers) && Modifier.isFinal(modifiers);
        System.out.println(right ? "the face is as due" : "the face is not as due: " + seen);
        if (!right || sharesAName() || hasStaticState()) {
            System.exit(1);
        }
    }

    /** Rule 1: no private method bears the name of a public one. */
    private static boolean sharesAName() {
        Set<String> open = new TreeSet<>();
        for (Method m : LineChunks.class.getMethods()) {
            open.add(m.getName());
        }
        boolean shares = false;
        for (Method m : LineChunks.class.getDeclaredMethods()) {
            if (Modifier.isPrivate(m.getModifiers()) && open.contains(m.getName())) {
                System.out.println("a private method bears a public one's name: " + m);
                shares = true;
            }
        }
        return shares;
    }

    /** Rule 5: static fields are final. */
    private static boolean hasStaticState() {
        boolean has = false;
        for (Field f : LineChunks.class.getDeclaredFields()) {
            if (Modifier.isStatic(f.getModifiers()) && !Modifier.isFinal(f.getModifiers())) {
                System.out.println("a static field is not final: " + f);
                has = true;
            }
        }
        return has;
    }

    private static void note(Set<String> seen, int modifiers, String member) {
        if (!Modifier.isPrivate(modifiers)) {
            seen.add(member);
        }
    }
}
