import java.io.File;
import java.lang.reflect.InvocationTargetException;
import java.lang.reflect.Method;
import java.lang.reflect.Modifier;
import java.net.URL;
import java.net.URLClassLoader;
import java.nio.file.Files;
import java.nio.file.Path;
import java.util.ArrayList;
import java.util.List;
import java.util.regex.Matcher;
import java.util.regex.Pattern;
import javax.tools.JavaCompiler;
import javax.tools.ToolProvider;

/** What README.md shows of the use of the class is compiled as it stands there, and answers as README.md says. */
public final class ReadmeTest {
    private static final Pattern BLOCK = Pattern.compile("(?s)```java\\n(.*?)```");
    private static final Pattern ANSWER = Pattern.compile("^(.*;)\\s*// answers ([^:]+)(:.*)?$");
    private static final Pattern NAMED = Pattern.compile("^(?:int|long) (\\w+) = .*;$");
    private static final Pattern ASKED = Pattern.compile("^(x\\.\\w+\\(.*\\));$");
    private static int answers = 0;
    private static int wrong = 0;

    private static void miss(String what) {
        wrong++;
        System.out.println(what);
    }

    /** Called by what was made of README.md, which another class loader has loaded. */
    public static void due(String line, long got, long want) {
        answers++;
        if (got != want) {
            miss("README.md: " + line + " answered " + got + ", it says " + want);
        }
    }

    private static List<String> shownLines(String readme) {
        List<String> lines = new ArrayList<>();
        Matcher block = BLOCK.matcher(readme);
        while (block.find()) {
            lines.addAll(List.of(block.group(1).split("\\n")));
        }
        return lines;
    }

    private static String quoted(String line) {
        return '"' + line.replace("\\", "\\\\").replace("\"", "\\\"") + '"';
    }

    /** The line as it stands, with its answer looked at; a line that asks and tells no answer is a fault. */
    private static String tried(String line) {
        Matcher answer = ANSWER.matcher(line);
        if (!answer.matches()) {
            if (line.contains("x.")) {
                miss("README.md shows a call without its answer: " + line);
            }
            return line;
        }
        String shown = answer.group(1).trim();
        Matcher named = NAMED.matcher(shown);
        Matcher asked = ASKED.matcher(shown);
        String want = answer.group(2).trim();
        if (named.matches()) {
            return shown + " ReadmeTest.due(" + quoted(shown) + ", " + named.group(1) + ", " + want + ");";
        }
        if (asked.matches()) {
            return "ReadmeTest.due(" + quoted(shown) + ", " + asked.group(1) + ", " + want + ");";
        }
        miss("README.md tells an answer of what is no call: " + line);
        return line;
    }

    private static void runShown(List<String> lines, Path room) throws Exception {
        StringBuilder source = new StringBuilder("public final class ReadmeUse {\n  public static void use() {\n");
        for (String line : lines) {
            source.append(tried(line)).append('\n');
        }
        source.append("  }\n}\n");
        Path file = room.resolve("ReadmeUse.java");
        Files.writeString(file, source);
        JavaCompiler compiler = ToolProvider.getSystemJavaCompiler();
        String path = System.getProperty("java.class.path");
        if (compiler == null || compiler.run(null, null, null, "-cp", path, "-d", room.toString(), file.toString()) != 0) {
            miss("README.md shows what does not compile");
            return;
        }
        try (URLClassLoader loader = new URLClassLoader(new URL[] {room.toUri().toURL()})) {
            loader.loadClass("ReadmeUse").getMethod("use").invoke(null);
        } catch (InvocationTargetException thrown) {
            miss("README.md shows what throws: " + thrown.getCause());
        }
    }

    private static void everyCallIsShown(String shown) {
        for (Method method : OughtKnown.class.getDeclaredMethods()) {
            if (Modifier.isPublic(method.getModifiers()) && !shown.contains("x." + method.getName() + "(")) {
                miss("README.md does not show " + method.getName());
            }
        }
        for (String refusal : List.of("NONE", "UNKNOWN", "OUTSIDE", "STATE", "FULL")) {
            if (!shown.contains("OughtKnown." + refusal)) {
                miss("README.md does not show " + refusal);
            }
        }
    }

    private static void everyTestIsNamed(String readme) {
        File[] tests = new File("src/test/java").listFiles();
        if (tests == null || tests.length == 0) {
            miss("no tests under src/test/java");
            return;
        }
        for (File test : tests) {
            String name = test.getName().replace(".java", "");
            if (!readme.contains("`" + name + "`")) {
                miss("README.md does not name the test " + name);
            }
        }
    }

    private static void clear(Path room) {
        File[] left = room.toFile().listFiles();
        for (File file : left == null ? new File[0] : left) {
            file.delete();
        }
        room.toFile().delete();
    }

    public static void main(String[] args) throws Exception {
        String readme = Files.readString(Path.of("README.md"));
        List<String> lines = shownLines(readme);
        Path room = Files.createTempDirectory("readme");
        try {
            runShown(lines, room);
        } finally {
            clear(room);
        }
        everyCallIsShown(String.join("\n", lines));
        everyTestIsNamed(readme);
        System.out.println(answers + " answers of README.md, " + wrong + " faults");
        if (wrong != 0 || answers == 0) {
            System.exit(1);
        }
    }
}
