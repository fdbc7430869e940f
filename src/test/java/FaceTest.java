import java.lang.reflect.Constructor;
import java.lang.reflect.Field;
import java.lang.reflect.Method;
import java.lang.reflect.Modifier;
import java.util.Set;
import java.util.TreeSet;

/** The class's face: just what the document lists, and nothing else that others can see. */
public final class FaceTest {
    private static final Set<String> DUE = Set.of(
        "public static final int GraphQuery.NONE",
        "public GraphQuery()",
        "public int GraphQuery.target(int,int,int)",
        "public boolean GraphQuery.needs(int,int)",
        "public int GraphQuery.need(int,int)",
        "public boolean GraphQuery.type(char)",
        "public int GraphQuery.ask()",
        "public int GraphQuery.answer(int)",
        "public int GraphQuery.nearest()",
        "public int GraphQuery.far(int,int)",
        "public int GraphQuery.ways(int,int,int)",
        "public int GraphQuery.work()");

    public static void main(String[] args) {
        Check check = new Check();
        Class<?> face = GraphQuery.class;
        check.same("public and final", face.getModifiers(), Modifier.PUBLIC | Modifier.FINAL);
        Set<String> seen = new TreeSet<>();
        for (Field f : face.getDeclaredFields()) {
            addSeen(seen, f.getModifiers(), f.toString());
        }
        for (Constructor<?> c : face.getDeclaredConstructors()) {
            addSeen(seen, c.getModifiers(), c.toString());
        }
        for (Method m : face.getDeclaredMethods()) {
            addSeen(seen, m.getModifiers(), m.toString());
        }
        for (String member : seen) {
            check.same(member + " is in the document", DUE.contains(member), true);
        }
        for (String member : DUE) {
            check.same(member + " is in the class", seen.contains(member), true);
        }
        staticState(check, face);
        for (Class<?> inside : face.getDeclaredClasses()) {
            check.same(inside + " is static", Modifier.isStatic(inside.getModifiers()), true);
            staticState(check, inside);
        }
        check.end("FaceTest");
    }

    private static void addSeen(Set<String> seen, int modifiers, String member) {
        if (!Modifier.isPrivate(modifiers)) {
            seen.add(member);
        }
    }

    private static void staticState(Check check, Class<?> type) {
        for (Field f : type.getDeclaredFields()) {
            if (Modifier.isStatic(f.getModifiers())) {
                check.same(f + " is final", Modifier.isFinal(f.getModifiers()), true);
            }
        }
    }
}
