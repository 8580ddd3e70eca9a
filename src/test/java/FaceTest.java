import java.lang.reflect.Constructor;
import java.lang.reflect.Field;
import java.lang.reflect.Method;
import java.lang.reflect.Modifier;
import java.util.Set;
import java.util.TreeSet;

/** The public face of the document, no more and no less. */
public final class FaceTest {
    private static final String[] FACE = {
        "int hole(int, int)", "int margins(int, int)", "int ground(int, int)", "int breaks(int)",
        "int window(int, int, int)", "int string(int, int)", "int bare()", "int plan(int)", "int shoe(int, int)",
        "int cap(int)", "int kick(int, int, int)", "long gas(int, int)", "int broken()", "int bears(int, int)",
        "int swab(int)", "int speed(int, int)", "int trip(int)", "int lightest(int)", "int pull(int, int)",
        "int slack()", "int ends(int, int, int)", "long free(int)", "int begin(int, int)",
        "int station(int, int, int)", "int place(int, int, int)", "long nearest()", "int where(int)",
        "int sheet(int, int, int)", "int lose(int)", "int put(int, int, int, int)", "int get(int, int, int)",
        "int copy(int, int, int, int, int)", "int count(int)", "long digest()"
    };
    private static final Check CHECK = new Check("the face");

    public static void main(String[] args) {
        methods();
        constants();
        rest();
        Check.end();
    }

    private static void methods() {
        Set<String> due = new TreeSet<>(Set.of(FACE));
        Set<String> names = new TreeSet<>();
        for (Method method : DeepHole.class.getDeclaredMethods()) {
            if (Modifier.isPublic(method.getModifiers())) {
                CHECK.holds("in the document: " + method, due.remove(signature(method)));
                CHECK.holds("not static: " + method, !Modifier.isStatic(method.getModifiers()));
                CHECK.holds("throws nothing: " + method, method.getExceptionTypes().length == 0);
                names.add(method.getName());
            }
        }
        CHECK.holds("missing: " + due, due.isEmpty());
        for (Method method : DeepHole.class.getDeclaredMethods()) {
            if (!Modifier.isPublic(method.getModifiers())) {
                CHECK.holds("private: " + method, Modifier.isPrivate(method.getModifiers()));
                CHECK.holds("another name: " + method, !names.contains(method.getName()));
            }
        }
    }

    private static String signature(Method method) {
        StringBuilder text = new StringBuilder(method.getReturnType().toString());
        text.append(' ').append(method.getName()).append('(');
        for (int i = 0; i < method.getParameterCount(); i++) {
            text.append(i == 0 ? "" : ", ").append(method.getParameterTypes()[i]);
        }
        return text.append(')').toString();
    }

    private static void constants() {
        CHECK.due("NONE", DeepHole.NONE, -1);
        CHECK.due("BAD", DeepHole.BAD, -2);
        CHECK.due("NOT", DeepHole.NOT, -3);
        CHECK.due("FULL", DeepHole.FULL, -4);
        Set<String> due = new TreeSet<>(Set.of("NONE", "BAD", "NOT", "FULL"));
        for (Field field : DeepHole.class.getDeclaredFields()) {
            if (!Modifier.isPrivate(field.getModifiers())) {
                CHECK.holds("in the document: " + field, due.remove(field.getName()));
                CHECK.holds("a public int: " + field, field.toString().startsWith("public static final int "));
            }
        }
        CHECK.holds("missing: " + due, due.isEmpty());
    }

    private static void rest() {
        CHECK.holds("public and final", (DeepHole.class.getModifiers() & ~0x20) == (Modifier.PUBLIC | Modifier.FINAL));
        Constructor<?>[] constructors = DeepHole.class.getDeclaredConstructors();
        CHECK.due("constructors", constructors.length, 1);
        CHECK.holds("a public one", Modifier.isPublic(constructors[0].getModifiers()));
        CHECK.due("its parameters", constructors[0].getParameterCount(), 0);
    }
}
