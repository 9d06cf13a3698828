import java.io.IOException;
import java.net.URL;
import java.net.URLClassLoader;
import java.nio.file.Files;
import java.nio.file.Path;
import java.util.ArrayList;
import java.util.List;
import java.util.regex.Matcher;
import java.util.regex.Pattern;
import javax.tools.JavaCompiler;
import javax.tools.ToolProvider;

/**
 * README.md tells the truth: its Java blocks compile, each call in them has an answer behind it
 * ("// 950" or "// STATE: why"), and the class gives this answer. The blocks are one run; a block
 * that starts with "static" is a method for those behind it. And each test that .ci/run runs stands
 * in README.md by its name.
 */
public final class ReadmeTest {
    private static final Path README = Path.of("README.md");
    private static final Path TESTS = Path.of("src/test/java");
    private static final Pattern CALL = Pattern.compile(
        "(?:(int|long|float) (\\w+) = )?((?:desk\\.|\\w+\\(desk).*\\));\\s*// (\\S+?)(?:: .*)?");

    private static int wrong = 0;
    private static int calls = 0;

    public static void main(String[] args) throws Exception {
        String readme = Files.readString(README);
        String source = example(readme);
        if (wrong == 0) {
            wrong += run(source);
        }
        if (calls == 0) {
            fail("no call in the examples");
        }
        names(readme);
        System.out.println(wrong == 0 ? "all " + calls + " answers are as due" : wrong + " are not as due");
        if (wrong != 0) {
            System.exit(1);
        }
    }

    private static void fail(String what) {
        wrong++;
        System.out.println(what);
    }

    /** One class of all the blocks, in which each answer is compared with the one behind its call. */
    private static String example(String readme) {
        StringBuilder methods = new StringBuilder();
        StringBuilder lines = new StringBuilder();
        for (String block : blocks(readme)) {
            if (block.startsWith("static ")) {
                methods.append(block);
            } else {
                for (String line : block.split("\n")) {
                    lines.append(compared(line.trim())).append('\n');
                }
            }
        }
        return "public final class Example {\n"
            + "static final int BAD = ParcelDesk.BAD;\nstatic final int STATE = ParcelDesk.STATE;\n"
            + "static final int FULL = ParcelDesk.FULL;\nstatic final int NONE = ParcelDesk.NONE;\n"
            + "static int wrong = 0;\n"
            + due("long") + due("float") + methods + "public static int run() {\n" + lines
            + "return wrong;\n}\n}\n";
    }

    private static String due(String type) {
        return "static void due(String call, " + type + " got, " + type + " want) {\n"
            + "    if (got != want) {\n        wrong++;\n"
            + "        System.out.println(call + \" answered \" + got + \", README.md says \" + want);\n"
            + "    }\n}\n";
    }

    private static List<String> blocks(String readme) {
        List<String> all = new ArrayList<>();
        Matcher m = Pattern.compile("(?s)```java\r?\n(.*?)```").matcher(readme);
        while (m.find()) {
            all.add(m.group(1));
        }
        return all;
    }

    private static String compared(String line) {
        Matcher m = CALL.matcher(line);
        if (!m.matches()) {
            if (line.contains("desk.") || line.contains("(desk")) {
                fail("has no answer: " + line);
            }
            return line;
        }
        calls++;
        String call = m.group(3);
        String name = m.group(2);
        String told = "due(\"" + call.replace("\\", "\\\\").replace("\"", "\\\"") + "\", ";
        if (name == null) {
            return told + call + ", " + m.group(4) + ");";
        }
        return m.group(1) + " " + name + " = " + call + ";\n" + told + name + ", " + m.group(4) + ");";
    }

    private static int run(String source) throws Exception {
        Path place = Files.createTempDirectory("readme");
        Path file = place.resolve("Example.java");
        Path built = place.resolve("Example.class");
        try {
            Files.writeString(file, source);
            JavaCompiler compiler = ToolProvider.getSystemJavaCompiler();
            int ended = compiler.run(null, null, null, "-cp", System.getProperty("java.class.path"),
                "-d", place.toString(), file.toString());
            if (ended != 0) {
                System.out.println("the examples do not compile");
                return 1;
            }
            try (URLClassLoader loader = new URLClassLoader(new URL[] {place.toUri().toURL()})) {
                return (int) loader.loadClass("Example").getMethod("run").invoke(null);
            }
        } finally {
            Files.deleteIfExists(file);
            Files.deleteIfExists(built);
            Files.deleteIfExists(place);
        }
    }

    private static void names(String readme) throws IOException {
        try (var files = Files.list(TESTS)) {
            for (Path file : files.toList()) {
                String name = file.getFileName().toString().replace(".java", "");
                if (!readme.contains("`" + name + "`")) {
                    fail("README.md does not name " + name);
                }
            }
        }
        Matcher m = Pattern.compile("`(\\w+Test)`").matcher(readme);
        while (m.find()) {
            if (!Files.exists(TESTS.resolve(m.group(1) + ".java"))) {
                fail("README.md names a test that is not there: " + m.group(1));
            }
        }
    }
}
