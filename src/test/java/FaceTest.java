import java.lang.reflect.Constructor;
import java.lang.reflect.Field;
import java.lang.reflect.Method;
import java.lang.reflect.Modifier;
import java.util.Set;
import java.util.TreeSet;

/** The class has the document's face, and nothing else that can be seen from outside. */
public final class FaceTest {
    private static final Set<String> FACE = Set.of(
        "public DataGuards(int)",
        "public void DataGuards.octet(byte)",
        "public int DataGuards.protect(int)",
        "public byte DataGuards.out(int) throws java.lang.ArrayIndexOutOfBoundsException",
        "public int DataGuards.check(int,byte,boolean)",
        "public int DataGuards.counter()",
        "public int DataGuards.state()",
        "public int DataGuards.span(int)",
        "public int DataGuards.plant(int,int,int)",
        "public int DataGuards.valid()",
        "public int DataGuards.react(long)",
        "public boolean DataGuards.told(int)",
        "public int DataGuards.polynomial(int)");

    public static void main(String[] args) {
        Set<String> seen = new TreeSet<>();
        for (Constructor<?> c : DataGuards.class.getDeclaredConstructors()) {
            addIfSeen(seen, c.getModifiers(), c.toString());
        }
        for (Method m : DataGuards.class.getDeclaredMethods()) {
            addIfSeen(seen, m.getModifiers(), m.toString());
        }
        for (Field f : DataGuards.class.getDeclaredFields()) {
            addIfSeen(seen, f.getModifiers(), f.toString());
        }
        for (String member : seen) {
            Due.is("in the face: " + member, FACE.contains(member), true);
        }
        for (String member : FACE) {
            Due.is("in the class: " + member, seen.contains(member), true);
        }
        int modifiers = DataGuards.class.getModifiers();
        Due.is("public and final", Modifier.isPublic(modifiers) && Modifier.isFinal(modifiers), true);
        Due.end();
    }

    private static void addIfSeen(Set<String> seen, int modifiers, String member) {
        if (!Modifier.isPrivate(modifiers)) {
            seen.add(member);
        }
    }
}
