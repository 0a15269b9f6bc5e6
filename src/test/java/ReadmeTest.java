import java.io.IOException;
import java.lang.reflect.Method;
import java.net.URL;
import java.net.URLClassLoader;
import java.nio.file.Files;
import java.nio.file.Path;
import java.util.ArrayList;
import java.util.List;
import java.util.Set;
import java.util.TreeSet;
import java.util.regex.Matcher;
import java.util.regex.Pattern;
import java.util.stream.Collectors;
import java.util.stream.Stream;
import javax.tools.JavaCompiler;
import javax.tools.ToolProvider;

/** README.md: its example answers what it says, and the calls, constants and tests that it names are those there are. */
public final class ReadmeTest {
    private static final Path README = Path.of("README.md"), DOCUMENT = Path.of("../shared/DOC.md"), TESTS = Path.of("src/test/java");
    private static final Pattern STEP = Pattern.compile("(?:int (\\w+) = )?(court\\.\\w+\\(.*\\)); +// (-?\\d+|[A-Z]+)(?::.*)?");
    private static int checks = 0, wrong = 0;

    private static void holds(boolean it, String what) {
        checks++;
        if (!it) {
            wrong++;
            System.out.println("does not hold: " + what);
        }
    }

    public static void main(String[] args) throws Exception {
        String readme = Files.readString(README);
        theCalls(readme, Files.readString(DOCUMENT));
        theConstants(readme);
        theText(readme);
        theTests(readme);
        theExample(readme);
        System.out.println(checks + " checks, " + wrong + " wrong");
        if (wrong != 0) {
            System.exit(1);
        }
    }

    /** The tables have a row for each call of the document's face, in its order, with its arguments. */
    private static void theCalls(String readme, String document) {
        List<String> due = new ArrayList<>();
        Matcher call = Pattern.compile("(?m)^    public (?:int|long) (\\w+)\\((.*)\\);$").matcher(document);
        while (call.find()) {
            due.add(call.group(1) + "(" + call.group(2).replaceAll("(int|long) ", "") + ")");
        }
        List<String> told = new ArrayList<>();
        Matcher row = Pattern.compile("(?m)^\\| `(\\w+\\(.*?\\))` \\| [^|]+ \\| [^|]+ \\|$").matcher(readme);
        while (row.find()) {
            told.add(row.group(1));
        }
        holds(due.size() == 38 && told.equals(due), "a row for each call: " + told + ", due are " + due);
    }

    private static void theConstants(String readme) throws Exception {
        for (String name : new String[] {"BAD", "NOT", "FULL", "STATE", "VOID"}) {
            int value = SoupCourt.class.getField(name).getInt(null);
            holds(readme.contains("`" + name + "` (" + value + ")"), name + " is " + value);
        }
    }

    /** The text of the law that the page shows is one. */
    private static void theText(String readme) {
        Matcher text = Pattern.compile("as in `([^`]+)`").matcher(readme);
        holds(text.find(), "a text of the law is shown");
        SoupCourt court = new SoupCourt();
        for (char letter : text.group(1).toCharArray()) {
            court.feed(letter);
        }
        holds(court.law() == 1, "a text of the law: " + text.group(1));
    }

    /** Each file with tests is named, and each one named is there. */
    private static void theTests(String readme) throws IOException {
        Set<String> named = new TreeSet<>();
        Matcher file = Pattern.compile("`src/test/java/(\\w+\\.java)`").matcher(readme);
        while (file.find()) {
            named.add(file.group(1));
        }
        Set<String> there;
        try (Stream<Path> files = Files.list(TESTS)) {
            there = files.map(each -> each.getFileName().toString()).collect(Collectors.toCollection(TreeSet::new));
        }
        holds(named.equals(there), "the tests' files: " + named + ", there are " + there);
        holds(readme.contains("    .ci/run\n") && Files.isExecutable(Path.of(".ci/run")), ".ci/run is a script");
    }

    /** Compiles the example and runs it: each call answers what its comment begins with. */
    private static void theExample(String readme) throws Exception {
        Matcher block = Pattern.compile("(?s)## An example\n.*?```java\n(.*?)```").matcher(readme);
        holds(block.find(), "there is an example");
        List<String> calls = new ArrayList<>();
        StringBuilder body = new StringBuilder();
        for (String line : block.group(1).split("\n")) {
            Matcher step = STEP.matcher(line);
            if (step.matches()) {
                String due = step.group(3).matches("[A-Z]+") ? "SoupCourt." + step.group(3) : step.group(3);
                String got = step.group(1) == null ? step.group(2) : step.group(1);
                body.append(step.group(1) == null ? "" : line).append('\n');
                body.append("pairs.add(new long[] {").append(got).append(", ").append(due).append("});\n");
                calls.add(line);
            } else {
                holds(line.isEmpty() || line.startsWith("// ") || line.equals("SoupCourt court = new SoupCourt();"), "an answer stands behind: " + line);
                body.append(line).append('\n');
            }
        }
        List<long[]> pairs = run(body.toString());
        holds(pairs.size() == calls.size() && !calls.isEmpty(), "each line is run: " + pairs.size() + " of " + calls.size());
        for (int i = 0; i < pairs.size(); i++) {
            holds(pairs.get(i)[0] == pairs.get(i)[1], calls.get(i) + " answered " + pairs.get(i)[0]);
        }
    }

    @SuppressWarnings("unchecked")
    private static List<long[]> run(String body) throws Exception {
        Path folder = Files.createTempDirectory("readme");
        Path source = folder.resolve("ReadmeExample.java");
        try {
            Files.writeString(source, "import java.util.*;\npublic final class ReadmeExample {\npublic static List<long[]> pairs() {\n"
                + "List<long[]> pairs = new ArrayList<>();\n" + body + "return pairs;\n}\n}\n");
            JavaCompiler compiler = ToolProvider.getSystemJavaCompiler();
            int failed = compiler.run(null, null, null, "-cp", System.getProperty("java.class.path"), "-d", folder.toString(), source.toString());
            holds(failed == 0, "the example compiles");
            if (failed != 0) {
                return List.of();
            }
            try (URLClassLoader loader = new URLClassLoader(new URL[] {folder.toUri().toURL()}, ReadmeTest.class.getClassLoader())) {
                Method pairs = loader.loadClass("ReadmeExample").getMethod("pairs");
                return (List<long[]>) pairs.invoke(null);
            }
        } finally {
            Files.deleteIfExists(folder.resolve("ReadmeExample.class"));
            Files.deleteIfExists(source);
            Files.deleteIfExists(folder);
        }
    }
}
