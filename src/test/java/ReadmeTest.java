import java.io.File;
import java.io.IOException;
import java.net.URL;
import java.net.URLClassLoader;
import java.nio.file.Files;
import java.nio.file.Path;
import java.util.ArrayList;
import java.util.List;
import java.util.Set;
import java.util.TreeSet;
import java.util.regex.Matcher;
import java.util.regex.Pattern;
import javax.tools.JavaCompiler;
import javax.tools.ToolProvider;

/** README.md: its lines of Java compile with the class and answer as it says; its table names every test. */
public final class ReadmeTest {
    /** Far fewer than README.md has; without any the test would vouch for nothing. */
    private static final int FEWEST_ANSWERS = 20;
    /** A call, perhaps with a name for its answer, and the answer as Java writes it; behind a colon it is explained. */
    private static final Pattern TOLD = Pattern.compile(
        "\\s*(?:(?:int|long) (\\w+) = )?(x\\..+);\\s*// answers ([^:]+)(?:: .*)?");
    private static final Check CHECK = new Check("README.md");

    public static void main(String[] args) throws IOException, ReflectiveOperationException {
        List<String> readme = Files.readAllLines(Path.of("README.md"));
        java(linesOfJava(readme));
        table(readme);
        Check.end();
    }

    /** All blocks of Java, as one run. */
    private static List<String> linesOfJava(List<String> readme) {
        List<String> lines = new ArrayList<>();
        boolean inside = false;
        for (String line : readme) {
            if (line.startsWith("```")) {
                inside = line.equals("```java");
            } else if (inside) {
                lines.add(line);
            }
        }
        return lines;
    }

    private static void java(List<String> lines) throws IOException, ReflectiveOperationException {
        Path folder = Files.createTempDirectory("readme");
        Path source = folder.resolve("ReadmeLines.java");
        Path compiled = folder.resolve("ReadmeLines.class");
        try {
            Files.writeString(source, program(lines));
            JavaCompiler compiler = ToolProvider.getSystemJavaCompiler();
            int code = compiler == null ? -1 : compiler.run(null, null, null, "--release", "17", "-cp",
                System.getProperty("java.class.path"), "-d", folder.toString(), source.toString());
            CHECK.due("its lines of Java compile: javac", code, 0);
            if (code == 0) {
                ask(folder);
            }
        } finally {
            Files.deleteIfExists(compiled);
            Files.deleteIfExists(source);
            Files.deleteIfExists(folder);
        }
    }

    /** The lines as they are shown, to compile them, and with a row for each answer that they tell, to ask. */
    private static String program(List<String> lines) {
        StringBuilder text = new StringBuilder("final class ReadmeLines {\n  static void shown() {\n");
        for (String line : lines) {
            text.append(line).append('\n');
        }
        text.append("  }\n  public static void asked(java.util.List<Object[]> rows) {\n");
        for (String line : lines) {
            Matcher told = TOLD.matcher(line);
            boolean tells = told.matches();
            CHECK.holds("its answer is told: " + line.trim(), tells || !line.contains("x."));
            text.append(tells ? asked(told) : line).append('\n');
        }
        return text.append("  }\n}\n").toString();
    }

    private static String asked(Matcher told) {
        String got = told.group(1) == null ? told.group(2) : told.group(1);
        String first = told.group(1) == null ? "" : "var " + told.group(1) + " = " + told.group(2) + "; ";
        String row = "\"" + told.group(2) + "\", (long) (" + got + "), (long) (" + told.group(3).trim() + ")";
        return first + "rows.add(new Object[] {" + row + "});";
    }

    private static void ask(Path folder) throws IOException, ReflectiveOperationException {
        List<Object[]> rows = new ArrayList<>();
        URL[] where = {folder.toUri().toURL()};
        try (URLClassLoader loader = new URLClassLoader(where, ReadmeTest.class.getClassLoader())) {
            var asked = loader.loadClass("ReadmeLines").getDeclaredMethod("asked", List.class);
            asked.setAccessible(true);
            asked.invoke(null, rows);
        }
        for (Object[] row : rows) {
            CHECK.due((String) row[0], (Long) row[1], (Long) row[2]);
        }
        CHECK.holds("it tells answers: " + rows.size(), rows.size() >= FEWEST_ANSWERS);
    }

    private static void table(List<String> readme) {
        Set<String> due = new TreeSet<>();
        for (File file : new File("src/test/java").listFiles()) {
            if (file.getName().endsWith("Test.java")) {
                due.add(file.getName().replace(".java", ""));
            }
        }
        for (String line : readme) {
            Matcher row = Pattern.compile("\\| `(\\w+Test)` \\|.*").matcher(line);
            if (row.matches()) {
                CHECK.holds("there is one test of the name " + row.group(1), due.remove(row.group(1)));
            }
        }
        CHECK.holds("not in its table: " + due, due.isEmpty());
    }
}
