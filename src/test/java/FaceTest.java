import java.lang.reflect.Constructor;
import java.lang.reflect.Field;
import java.lang.reflect.Member;
import java.lang.reflect.Method;
import java.lang.reflect.Modifier;
import java.util.Arrays;
import java.util.List;
import java.util.TreeSet;

/** The public face is the document's, and nothing else of the class is to be seen from outside. */
final class FaceTest {
    private static final List<String> FACE = Arrays.asList(
        "boolean coerce(int)", "boolean embeds(int, int)", "boolean pile(int, int)",
        "boolean put(int, int, int, int, int)", "boolean show(int, int, int)",
        "boolean summary(int, int, boolean)", "boolean universe(int, int)", "int apply(int, int)",
        "int blur(int)", "int change(int, int, int)", "int edge(int, int, int, int)",
        "int formula(int, int, int, int, int)", "int free(int)", "int get(int, int, int, int)",
        "int known(int, int)", "int recorded(int)", "int rule(int, int, int)", "int run()",
        "int size(int)", "int start(int, int)", "int value(int, int, int, int)",
        "BAD", "FULL", "UNKNOWN", "ThreeValues()");
    private static final Check check = new Check("FaceTest");

    public static void main(String[] args) {
        TreeSet<String> seen = new TreeSet<>();
        TreeSet<String> faceNames = new TreeSet<>();
        for (Method m : ThreeValues.class.getDeclaredMethods()) {
            if (isSeen(m)) {
                seen.add(m.getReturnType().getName() + " " + m.getName() + kinds(m.getParameterTypes()));
                faceNames.add(m.getName());
            }
        }
        for (Method m : ThreeValues.class.getDeclaredMethods()) {
            check.no("private method " + m.getName() + " with a public name", !isSeen(m) && faceNames.contains(m.getName()));
        }
        for (Field f : ThreeValues.class.getDeclaredFields()) {
            if (isSeen(f)) {
                seen.add(f.getName());
            }
            check.yes("static field " + f.getName() + " is final",
                !Modifier.isStatic(f.getModifiers()) || Modifier.isFinal(f.getModifiers()));
        }
        for (Constructor<?> c : ThreeValues.class.getDeclaredConstructors()) {
            if (isSeen(c)) {
                seen.add("ThreeValues" + kinds(c.getParameterTypes()));
            }
        }
        check.yes("the face is " + seen, seen.equals(new TreeSet<>(FACE)));
        check.yes("final", Modifier.isFinal(ThreeValues.class.getModifiers()));
        check.end();
    }

    private static boolean isSeen(Member m) {
        return !Modifier.isPrivate(m.getModifiers()) && !m.isSynthetic();
    }

    private static String kinds(Class<?>[] types) {
        StringBuilder text = new StringBuilder("(");
        for (int i = 0; i < types.length; i++) {
            text.append(i == 0 ? "" : ", ").append(types[i].getName());
        }
        return text.append(")").toString();
    }
}
