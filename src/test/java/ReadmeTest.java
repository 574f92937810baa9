import java.io.IOException;
import java.lang.reflect.Method;
import java.lang.reflect.Modifier;
import java.net.URL;
import java.net.URLClassLoader;
import java.nio.file.Files;
import java.nio.file.Path;
import java.util.Set;
import java.util.TreeSet;
import java.util.regex.Matcher;
import java.util.regex.Pattern;
import javax.tools.ToolProvider;

/** README.md: its Java is compiled and run, and its table held against the class. */
public final class ReadmeTest {
    private static final Pattern BLOCK = Pattern.compile("(?s)```java\n(.*?)```");
    private static final Pattern ANSWERED = Pattern.compile("(?m)^(x\\.|tell\\()(.*); // = ([-\\w]+).*$");
    private static final Pattern ROW = Pattern.compile("(?m)^\\| `(\\w+)\\((.*?)\\)` \\| .* \\| `([-\\w]+)`[^|]*\\|$");
    /** There is no such LIBRARY, YEAR, LOG, sort, image, and a new object's tape has not so many bytes. */
    private static final String NO_SUCH = "7";

    private static int asked = 0;
    private static int wrong = 0;

    public static void main(String[] args) throws Exception {
        String page = Files.readString(Path.of("README.md"));
        examples(page);
        table(page);
        System.out.println("ReadmeTest: " + asked + " answers" + (wrong == 0 ? " as due" : ", " + wrong + " wrong"));
        if (wrong != 0) {
            System.exit(1);
        }
    }

    /** Called by the page's own Java, too. */
    public static void due(String call, Object got, Object want) {
        asked++;
        if (!String.valueOf(got).equals(String.valueOf(want))) {
            wrong++;
            System.out.println("README.md: " + call + " answered " + got + ", due is " + want);
        }
    }

    /** The page's methods as they are, and its lines, each held against the answer that stands behind it. */
    private static String program(String page) {
        StringBuilder methods = new StringBuilder();
        StringBuilder lines = new StringBuilder();
        Matcher block = BLOCK.matcher(page);
        while (block.find()) {
            String java = block.group(1);
            if (java.startsWith("static ")) {
                methods.append(java);
            } else {
                lines.append(ANSWERED.matcher(java).replaceAll(m -> {
                    String call = m.group(1) + m.group(2);
                    String quoted = call.replace("\\", "\\\\").replace("\"", "\\\"");
                    return Matcher.quoteReplacement("ReadmeTest.due(\"" + quoted + "\", " + call + ", \"" + m.group(3) + "\");");
                }));
            }
        }
        return "public final class Page {\n" + methods + "public static void run() {\n" + lines + "}\n}\n";
    }

    private static void examples(String page) throws Exception {
        Path here = Files.createDirectories(Path.of("build/readme"));
        Path source = here.resolve("Page.java");
        Files.writeString(source, program(page));
        String path = System.getProperty("java.class.path");
        int failed = ToolProvider.getSystemJavaCompiler().run(null, null, null, "-cp", path, "-d", here.toString(), source.toString());
        due("its Java compiled", failed, 0);
        if (failed == 0) {
            run(here);
        }
        due("more than twenty answers of examples", asked > 20, true);
    }

    private static void run(Path here) throws IOException, ReflectiveOperationException {
        try (URLClassLoader loader = new URLClassLoader(new URL[] {here.toUri().toURL()}, ReadmeTest.class.getClassLoader())) {
            loader.loadClass("Page").getMethod("run").invoke(null);
        }
    }

    private static void table(String page) {
        Set<String> rows = new TreeSet<>();
        Matcher row = ROW.matcher(page);
        while (row.find()) {
            rows.add(row.group(1));
            noneSuch(row.group(1), row.group(2).split(", ").length, row.group(3));
        }
        Set<String> calls = new TreeSet<>();
        for (Method m : OneReader.class.getDeclaredMethods()) {
            if (Modifier.isPublic(m.getModifiers())) {
                calls.add(m.getName());
            }
        }
        due("the calls of the table", rows, calls);
    }

    private static void noneSuch(String name, int arguments, String answer) {
        Asked x = new Asked();
        if (name.equals("feed")) {
            x.tape(" ".repeat(600));
        }
        String call = name + (" " + NO_SUCH).repeat(arguments);
        due(call, x.answer(call), answer.equals("NONE") ? OneReader.NONE : answer);
    }
}
