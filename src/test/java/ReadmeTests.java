import java.io.File;
import java.io.IOException;
import java.lang.reflect.Method;
import java.lang.reflect.Modifier;
import java.net.URL;
import java.net.URLClassLoader;
import java.nio.file.Files;
import java.nio.file.Path;
import java.util.ArrayList;
import java.util.List;
import java.util.NoSuchElementException;
import java.util.regex.Matcher;
import java.util.regex.Pattern;
import javax.tools.JavaCompiler;
import javax.tools.ToolProvider;

/**
 * What README.md shows is what the class answers: its example is compiled, each line asked for what stands behind it; the
 * tests that it tells are the ones that there are, and its table has the columns that the class takes.
 */
public final class ReadmeTests {
    private static final Pattern EXAMPLE = Pattern.compile("(?s)```java\n(.*?)```");
    // A line that is made up of a statement and of what it answers.
    private static final Pattern SHOWN = Pattern.compile("(?:int (\\w+) = )?(x\\.\\w+\\(.*\\)); +// (-?\\d+|true|false|NoSuchElementException)(?::.*)?");
    private static final String MADE = "ReadmeExample";
    private static final int LINES_LEAST = 30;
    private static int wrong = 0;

    public static void main(String[] args) throws Exception {
        String page = Files.readString(Path.of("README.md"));
        example(page);
        everyCall(page);
        tests(page);
        columns(page);
        System.out.println("ReadmeTests: " + wrong + " wrong");
        if (wrong != 0) {
            System.exit(1);
        }
    }

    private static void need(boolean kept, String what) {
        if (!kept) {
            wrong++;
            System.out.println(what);
        }
    }

    /** Called by the example's lines. */
    public static void due(String line, Object got, Object want) {
        need(got.equals(want), line + ": answered " + got);
    }

    private static void example(String page) throws Exception {
        Matcher m = EXAMPLE.matcher(page);
        if (!m.find()) {
            need(false, "no example");
            return;
        }
        StringBuilder source = new StringBuilder("import java.util.NoSuchElementException;\n");
        source.append("public final class " + MADE + " {\n    public static void run() {\n");
        int shown = 0;
        for (String line : m.group(1).split("\n")) {
            Matcher told = SHOWN.matcher(line);
            if (told.matches()) {
                shown++;
                source.append(asked(line, told.group(1), told.group(2), told.group(3)));
            } else {
                need(line.isBlank() || line.startsWith("//") || line.equals("NightRiders x = new NightRiders();"), "not shown: " + line);
                source.append(line).append('\n');
            }
        }
        need(shown >= LINES_LEAST, "only " + shown + " lines with an answer");
        need(!m.find(), "more than one example");
        run(source.append("    }\n}\n").toString());
    }

    private static String asked(String line, String name, String call, String want) {
        String text = "\"" + line.replace("\"", "\\\"") + "\"";
        if (want.startsWith("NoSuch")) {
            return "String thrown = \"nothing\"; try { " + call + "; } catch (NoSuchElementException e) { thrown = e.getClass().getSimpleName(); }\n"
                + "ReadmeTests.due(" + text + ", thrown, \"" + want + "\");\n";
        }
        String ahead = name == null ? "" : "int " + name + " = " + call + ";\n";
        return ahead + "ReadmeTests.due(" + text + ", " + (name == null ? call : name) + ", " + want + ");\n";
    }

    private static void run(String source) throws Exception {
        Path folder = Files.createTempDirectory("readme");
        Path file = folder.resolve(MADE + ".java");
        try {
            Files.writeString(file, source);
            JavaCompiler compiler = ToolProvider.getSystemJavaCompiler();
            String classes = System.getProperty("java.class.path");
            boolean compiled = compiler != null
                && compiler.run(null, null, null, "-cp", classes, "-d", folder.toString(), file.toString()) == 0;
            need(compiled, "the example can't be compiled");
            if (compiled) {
                try (URLClassLoader loader = new URLClassLoader(new URL[] {folder.toUri().toURL()})) {
                    Method example = loader.loadClass(MADE).getMethod("run");
                    example.invoke(null);
                }
            }
        } finally {
            remove(folder);
        }
    }

    private static void remove(Path folder) throws IOException {
        File[] files = folder.toFile().listFiles();
        for (File file : files == null ? new File[0] : files) {
            Files.delete(file.toPath());
        }
        Files.delete(folder);
    }

    private static void everyCall(String page) {
        for (Method m : NightRiders.class.getDeclaredMethods()) {
            if (Modifier.isPublic(m.getModifiers())) {
                need(page.contains("x." + m.getName() + "("), "not shown: " + m.getName());
            }
        }
    }

    private static void tests(String page) {
        List<String> told = new ArrayList<>();
        Matcher m = Pattern.compile("`(src/\\w+/java/\\w+\\.java)`").matcher(page);
        while (m.find()) {
            told.add(m.group(1));
            need(Files.exists(Path.of(m.group(1))), "told, but not there: " + m.group(1));
        }
        File[] files = new File("src/test/java").listFiles();
        for (File file : files == null ? new File[0] : files) {
            need(told.contains("src/test/java/" + file.getName()), "there, but not told: " + file);
        }
    }

    /** Each "what" of the table is answered, and the one behind them is refused. */
    private static void columns(String page) {
        int rows = 0;
        for (String line : page.split("\n")) {
            Matcher m = Pattern.compile("\\| `(\\w+)\\(.*what\\)` \\|(.*)").matcher(line);
            if (m.matches()) {
                rows++;
                String[] cells = m.group(2).split("\\|");
                int whats = whats(m.group(1));
                need(cells.length >= whats, "columns for " + m.group(1) + ": " + cells.length);
                for (int i = 0; i < cells.length; i++) {
                    need(!cells[i].isBlank() == i < whats, "told or not: column " + i + " for " + m.group(1));
                }
            }
        }
        need(rows == 4, "rows in the table: " + rows);
    }

    private static int whats(String call) {
        NightRiders x = new NightRiders();
        x.place();
        x.place();
        x.road(0, 1, 5);
        x.rider(0, 3, 0, 9, 1);
        x.call(0, 0, 1, 0, 5);
        x.send(0);
        int what = 0;
        while (what < 100 && isAnswered(x, call, what)) {
            what++;
        }
        return what;
    }

    private static boolean isAnswered(NightRiders x, String call, int what) {
        switch (call) {
            case "count":
                return x.count(what) != NightRiders.NONE;
            case "told":
                return x.told(0, what) != NightRiders.NONE;
            case "leg":
                return x.leg(0, 0, what) != NightRiders.NONE;
            default:
                try {
                    return x.of(0, what) >= 0;
                } catch (NoSuchElementException e) {
                    return false;
                }
        }
    }
}
