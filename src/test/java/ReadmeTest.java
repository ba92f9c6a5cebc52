import java.io.IOException;
import java.lang.reflect.Method;
import java.lang.reflect.Modifier;
import java.net.URL;
import java.net.URLClassLoader;
import java.nio.file.Files;
import java.nio.file.Path;
import java.util.ArrayList;
import java.util.List;
import java.util.Set;
import java.util.TreeSet;
import java.util.regex.MatchResult;
import java.util.regex.Pattern;
import java.util.stream.Stream;
import javax.tools.ToolProvider;

/** That README.md's examples answer as it says, and that it names the calls and the tests that there are. */
public final class ReadmeTest {
    private static final Path TESTS = Path.of("src/test/java");
    private static final Pattern JAVA_BLOCK = Pattern.compile("```java\n(.*?)```", Pattern.DOTALL);
    private static final Pattern ANSWERED = Pattern.compile("(?m)^(x\\.\\w+\\([^)]*\\)); +// (-?\\d+): .*$");
    private static final Pattern CALLS_ROW = Pattern.compile("(?m)^\\| `([A-Za-z ]+)` \\|");
    private static final Pattern EDGES_PART = Pattern.compile("`(\\w+Edges)`\\s+\\((?:promises )?([^)]*)\\)");

    private static final Check CHECK = new Check();

    private ReadmeTest() { }

    public static void main(String[] args) throws Exception {
        String readme = Files.readString(Path.of("README.md"));
        examples(readme);
        calls(readme);
        tests(readme);
        edges(readme);
        CHECK.close("ReadmeTest");
    }

    private static void due(String what, int got, int want) {
        CHECK.due("README.md: " + what, got, want);
    }

    /** The first block is a helper, the second one uses it. */
    private static void examples(String readme) throws Exception {
        List<String> blocks = JAVA_BLOCK.matcher(readme).results().map(m -> m.group(1)).toList();
        due("blocks of Java", blocks.size(), 2);
        if (blocks.size() != 2) {
            return;
        }
        List<MatchResult> answered = ANSWERED.matcher(blocks.get(1)).results().toList();
        due("lines of the example that ask", answered.size(), (int) blocks.get(1).lines().filter(l -> l.startsWith("x.")).count());
        String body = ANSWERED.matcher(blocks.get(1)).replaceAll("got.add($1);");
        String lengths = "public static int told(int n) { SoughtHouse x = new SoughtHouse(); tell(x, \" \".repeat(n)); return x.count(13); }\n";
        String source = "public final class Example {\n" + blocks.get(0) + lengths
                + "public static void run(java.util.List<Integer> got) {\n" + body + "}\n}\n";
        List<Integer> got = new ArrayList<>();
        run(source, got);
        due("answers of the example", got.size(), answered.size());
        for (int k = 0; k < Math.min(got.size(), answered.size()); k++) {
            due(answered.get(k).group(1), got.get(k), Integer.parseInt(answered.get(k).group(2)));
        }
    }

    private static void run(String source, List<Integer> got) throws Exception {
        Path dir = Files.createTempDirectory("readme");
        try {
            Path file = Files.writeString(dir.resolve("Example.java"), source);
            int compiled = ToolProvider.getSystemJavaCompiler().run(null, null, null, "-cp", System.getProperty("java.class.path"),
                    "-d", dir.toString(), file.toString());
            due("whether the example compiles", compiled, 0);
            if (compiled == 0) {
                try (URLClassLoader loader = new URLClassLoader(new URL[] {dir.toUri().toURL()})) {
                    Class<?> example = loader.loadClass("Example");
                    example.getMethod("run", List.class).invoke(null, got);
                    for (int n = 0; n <= 400; n++) {
                        due("bytes of a text of " + n, (int) example.getMethod("told", int.class).invoke(null, n), n);
                    }
                }
            }
        } finally {
            Files.deleteIfExists(dir.resolve("Example.java"));
            Files.deleteIfExists(dir.resolve("Example.class"));
            Files.deleteIfExists(dir);
        }
    }

    /** Each call of the face stands once in the table of the calls, and nothing else does. */
    private static void calls(String readme) {
        List<String> named = CALLS_ROW.matcher(readme).results().flatMap(m -> Stream.of(m.group(1).split(" "))).sorted().toList();
        List<String> face = Stream.of(SoughtHouse.class.getDeclaredMethods()).filter(m -> Modifier.isPublic(m.getModifiers()))
                .map(Method::getName).sorted().toList();
        due("the calls " + named + " are " + face, named.equals(face) ? 1 : 0, 1);
    }

    /** Each test that .ci/run runs is told of, and each that is told of is there. */
    private static void tests(String readme) throws IOException {
        Set<String> there = new TreeSet<>();
        try (Stream<Path> files = Files.list(TESTS)) {
            files.map(f -> f.getFileName().toString()).filter(f -> f.endsWith("Test.java")).forEach(there::add);
        }
        Set<String> named = new TreeSet<>();
        Pattern.compile("(?m)^- `src/test/java/(\\w+\\.java)`").matcher(readme).results().forEach(m -> named.add(m.group(1)));
        due("the tests " + named + " are " + there, named.equals(there) ? 1 : 0, 1);
        due("whether .ci/run can be run", Files.isExecutable(Path.of(".ci/run")) ? 1 : 0, 1);
    }

    /** Each file of edges has tests of just those promises that are told of it. */
    private static void edges(String readme) throws Exception {
        Set<Integer> all = new TreeSet<>();
        for (MatchResult part : EDGES_PART.matcher(readme).results().toList()) {
            Set<Integer> told = numbers(part.group(2));
            Set<Integer> there = new TreeSet<>();
            for (Method m : Class.forName(part.group(1)).getDeclaredMethods()) {
                if (m.getName().startsWith("promise")) {
                    there.add(Integer.parseInt(m.getName().substring(7, 9)));
                }
            }
            due(part.group(1) + " " + told + " has " + there, told.equals(there) ? 1 : 0, 1);
            all.addAll(told);
        }
        due("promises with edges", all.size(), Edges.PROMISES);
    }

    /** Of "4, 7 to 9" the numbers 4, 7, 8, 9. */
    private static Set<Integer> numbers(String told) {
        Set<Integer> numbers = new TreeSet<>();
        for (String part : told.split(",")) {
            String[] ends = part.trim().split(" to ");
            for (int k = Integer.parseInt(ends[0]); k <= Integer.parseInt(ends[ends.length - 1]); k++) {
                numbers.add(k);
            }
        }
        return numbers;
    }
}
