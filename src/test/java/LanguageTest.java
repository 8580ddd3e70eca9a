import java.io.IOException;
import java.lang.reflect.Executable;
import java.lang.reflect.Field;
import java.lang.reflect.Method;
import java.lang.reflect.Modifier;
import java.nio.file.Files;
import java.nio.file.Path;
import java.util.ArrayList;
import java.util.Arrays;
import java.util.List;
import java.util.Set;
import java.util.regex.Matcher;
import java.util.regex.Pattern;

/** What LANGUAGE.md leaves of Java, as far as the source and the compiled classes show it. */
public final class LanguageTest {
    private static final int CLASSES = 12, FIELDS = 20, PARAMETERS = 7, LINES = 60;
    private static final Pattern LEFT_OUT = Pattern.compile(
        "\\b(throws?|try|catch|finally|synchronized|assert|package|hashCode|toString|\\w+Exact)\\b|->|::");
    /** A part of a class of the library, which has small letters in its name as own constants have not. */
    private static final Pattern PART = Pattern.compile("\\b([A-Z]\\w*[a-z]\\w*)\\.\\w+\\s*\\(?");
    /** Rule 4 lists functions of Integer, Long and Math, but no constants of theirs. */
    private static final Pattern LISTED = Pattern.compile("System\\.arraycopy\\(|List\\.of\\("
        + "|Arrays\\.(copyOf|copyOfRange|fill)\\(|(Integer|Long|Math)\\.[a-z]\\w*\\(");
    private static final Set<Class<?>> CONSTANTS = Set.of(int.class, long.class, boolean.class, char.class,
        String.class, int[].class, long[].class, char[].class, byte[].class);

    private static final List<Class<?>> ALL = new ArrayList<>();

    public static void main(String[] args) throws IOException {
        ALL.add(DeepHole.class);
        ALL.addAll(Arrays.asList(DeepHole.class.getDeclaredClasses()));
        String text = Files.readString(Path.of("src/main/java/DeepHole.java"));
        String code = text.replaceAll("(?s)/\\*.*?\\*/", "").replaceAll("//[^\n]*", "");
        classesInside(code);
        names();
        library(code);
        staticFields(code);
        wordsLeftOut(code);
        sizes();
        lengths(text.split("\n"));
        Check.end();
    }

    private static void classesInside(String code) {
        Check c = new Check("LANGUAGE 1, 2, 11, classes inside");
        c.holds("some twelve at most", ALL.size() <= CLASSES);
        for (Class<?> inside : DeepHole.class.getDeclaredClasses()) {
            int how = inside.getModifiers();
            c.holds("static: " + inside, Modifier.isStatic(how));
            c.holds("private or package-visible: " + inside, !Modifier.isPublic(how) && !Modifier.isProtected(how));
        }
        Matcher declared = Pattern.compile("\\b(class|record|enum|interface)\\s+\\w").matcher(code);
        int number = 0;
        while (declared.find()) {
            number++;
        }
        c.due("none is local", number, ALL.size());
        c.holds("none is anonymous", !Pattern.compile("new \\w+\\([^;{]*\\) \\{").matcher(code).find());
    }

    private static void names() {
        Check c = new Check("LANGUAGE 1, no private method bears the name of a public one");
        List<String> open = new ArrayList<>();
        for (Method method : DeepHole.class.getMethods()) {
            open.add(method.getName());
        }
        for (Class<?> one : ALL) {
            for (Method method : one.getDeclaredMethods()) {
                c.holds("" + method, !Modifier.isPrivate(method.getModifiers()) || !open.contains(method.getName()));
            }
        }
    }

    private static void library(String code) {
        Check c = new Check("LANGUAGE 4, the library");
        List<String> own = new ArrayList<>();
        for (Class<?> one : ALL) {
            own.add(one.getSimpleName());
        }
        Matcher part = PART.matcher(code);
        while (part.find()) {
            String used = part.group().replaceAll("\\s", "");
            c.holds(used, own.contains(part.group(1)) || LISTED.matcher(used).matches());
        }
        Matcher named = Pattern.compile("\\bjavax?\\.[\\w.*]+").matcher(code);
        while (named.find()) {
            c.holds(named.group(), named.group().matches("java\\.util\\.(Arrays|ArrayList|List|Iterator)"));
        }
    }

    private static void staticFields(String code) {
        Check c = new Check("LANGUAGE 5, static fields");
        for (Class<?> one : ALL) {
            for (Field field : one.getDeclaredFields()) {
                if (Modifier.isStatic(field.getModifiers())) {
                    c.holds("final: " + field, Modifier.isFinal(field.getModifiers()));
                    c.holds("of a type that may be: " + field, CONSTANTS.contains(field.getType()));
                }
            }
        }
        c.holds("no block", !Pattern.compile("\\bstatic\\s*\\{").matcher(code).find());
    }

    private static void wordsLeftOut(String code) {
        Check c = new Check("LANGUAGE 2, 4, 6, words left out");
        Matcher word = LEFT_OUT.matcher(code);
        while (word.find()) {
            c.holds(word.group(), false);
        }
    }

    private static void sizes() {
        Check c = new Check("LANGUAGE 11, parameters and fields");
        for (Class<?> one : ALL) {
            List<Executable> calls = new ArrayList<>(Arrays.asList(one.getDeclaredMethods()));
            calls.addAll(Arrays.asList(one.getDeclaredConstructors()));
            for (Executable call : calls) {
                c.holds("" + call, call.getParameterCount() <= PARAMETERS);
            }
            int fields = 0;
            for (Field field : one.getDeclaredFields()) {
                fields += Modifier.isStatic(field.getModifiers()) ? 0 : 1;
            }
            c.holds("" + one, fields <= FIELDS);
        }
    }

    /** A method ends at the first line that closes a brace as far in as the method stands. */
    private static void lengths(String[] lines) {
        Check c = new Check("LANGUAGE 11, lengths");
        Pattern head = Pattern.compile("( {4}| {8})\\w[\\w\\[\\] ]*\\([\\w\\[\\], ]*\\) \\{");
        for (int from = 0; from < lines.length; from++) {
            Matcher method = head.matcher(lines[from]);
            if (method.matches()) {
                int to = from;
                while (to < lines.length && !lines[to].equals(method.group(1) + "}")) {
                    to++;
                }
                c.holds(lines[from].trim(), to - from < LINES);
            }
        }
    }
}
