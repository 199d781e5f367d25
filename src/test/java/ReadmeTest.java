import java.io.IOException;
import java.lang.reflect.Method;
import java.lang.reflect.Modifier;
import java.net.URL;
import java.net.URLClassLoader;
import java.nio.file.Files;
import java.nio.file.Path;
import java.util.List;
import java.util.regex.Matcher;
import java.util.regex.Pattern;
import java.util.stream.Collectors;
import java.util.stream.Stream;
import javax.tools.ToolProvider;

/** What README.md says is so: its code compiles, each call answers what stands behind it, no call and no test is left out. */
public final class ReadmeTest {
    private static final Pattern BLOCK = Pattern.compile("```java\n(.*?)```", Pattern.DOTALL);
    private static final Pattern ANSWERED = Pattern.compile("(?:int (\\w+) = )?(.*); +// (-?\\d+|true|false)\\b.*");
    private static final String NAME = "ReadmeExample";
    private static int wrong = 0;
    private static int held = 0;

    private ReadmeTest() {
    }

    public static void main(String[] args) throws Exception {
        String readme = Files.readString(Path.of("README.md"));
        callsAreNamed(readme);
        testsAreNamed(readme);
        runExample(example(readme));
        if (held < 20) {
            fail("only " + held + " calls of the page were tried");
        }
        System.out.println(wrong == 0 ? held + " calls of the page answer what it says" : wrong + " things are not as the page says");
        if (wrong != 0) {
            System.exit(1);
        }
    }

    private static void fail(String what) {
        wrong++;
        System.out.println(what);
    }

    /** Called by the code that is made of the page. */
    public static void due(String call, Object got, String want) {
        held++;
        if (!String.valueOf(got).equals(want)) {
            fail(call + " answered " + got + ", README.md says " + want);
        }
    }

    private static void callsAreNamed(String readme) {
        for (Method m : ManyPlaces.class.getDeclaredMethods()) {
            if (Modifier.isPublic(m.getModifiers()) && !readme.contains("`" + m.getName() + "`")) {
                fail("README.md does not name " + m.getName());
            }
        }
    }

    private static void testsAreNamed(String readme) throws IOException {
        try (Stream<Path> files = Files.list(Path.of("src/test/java"))) {
            List<String> names = files.map(f -> f.getFileName().toString()).filter(n -> n.endsWith("Test.java"))
                .map(n -> n.substring(0, n.length() - ".java".length())).collect(Collectors.toList());
            for (String name : names) {
                if (!readme.contains("- `" + name)) {
                    fail("README.md does not tell of " + name);
                }
            }
            Matcher told = Pattern.compile("- `(\\w+Test)").matcher(readme);
            while (told.find()) {
                if (!names.contains(told.group(1))) {
                    fail("README.md tells of " + told.group(1) + ", which is not there");
                }
            }
        }
    }

    /** The blocks of the page as one class: functions as they stand, each other line as a call with what it is to answer. */
    private static String example(String readme) {
        StringBuilder functions = new StringBuilder();
        StringBuilder calls = new StringBuilder();
        Matcher blocks = BLOCK.matcher(readme);
        while (blocks.find()) {
            if (blocks.group(1).startsWith("static ")) {
                functions.append(blocks.group(1));
            } else {
                blocks.group(1).lines().forEach(line -> calls.append(tried(line)).append('\n'));
            }
        }
        return "public final class " + NAME + " {\n" + functions + "public static void go() {\n" + calls + "}\n}\n";
    }

    private static String tried(String line) {
        Matcher m = ANSWERED.matcher(line);
        if (!m.matches()) {
            return line;
        }
        String value = m.group(1) == null ? m.group(2) : m.group(1);
        String first = m.group(1) == null ? "" : "int " + m.group(1) + " = " + m.group(2) + "; ";
        return first + "ReadmeTest.due(\"" + m.group(2).replace("\"", "\\\"") + "\", " + value + ", \"" + m.group(3) + "\");";
    }

    private static void runExample(String source) throws Exception {
        Path made = Files.createTempDirectory("readme");
        Path file = made.resolve(NAME + ".java");
        Files.writeString(file, source);
        String classes = System.getProperty("java.class.path");
        if (ToolProvider.getSystemJavaCompiler().run(null, null, null, "-cp", classes, "-d", made.toString(), file.toString()) != 0) {
            fail("the code of README.md does not compile");
            return;
        }
        try (URLClassLoader loader = new URLClassLoader(new URL[] {made.toUri().toURL()}, ReadmeTest.class.getClassLoader())) {
            loader.loadClass(NAME).getMethod("go").invoke(null);
        }
        for (String name : List.of(NAME + ".java", NAME + ".class")) {
            Files.deleteIfExists(made.resolve(name));
        }
        Files.deleteIfExists(made);
    }
}
