import java.io.IOException;
import java.lang.reflect.Method;
import java.lang.reflect.Modifier;
import java.net.URL;
import java.net.URLClassLoader;
import java.nio.file.Files;
import java.nio.file.Path;
import java.util.ArrayList;
import java.util.List;
import java.util.Set;
import java.util.TreeSet;
import java.util.regex.Matcher;
import java.util.regex.Pattern;
import java.util.stream.Stream;
import javax.tools.ToolProvider;

/** What README.md says holds: its example answers what stands behind its calls, and its command and tests are there. */
public final class ReadmeTest {
    private static final Path README = Path.of("README.md");
    private static final Path TESTS = Path.of("src/test/java");
    private static final String MAIN = "src/main/java/BoundedCodes.java";

    /** A call of the example, and the answer behind it, before a colon and words if there are any. */
    private static final Pattern CALL = Pattern.compile("(codes\\.(\\w+)\\([^;]*\\)); +// ([^:]+)(:.*)?");
    private static final Pattern NAME_OF_TEST = Pattern.compile("`(\\w*Test|Model|Unchanged|Due|Some)`");

    private final Due due = new Due();
    private final List<String> readme;

    private ReadmeTest() throws IOException {
        readme = Files.readAllLines(README);
    }

    public static void main(String[] args) throws Exception {
        ReadmeTest test = new ReadmeTest();
        test.due.sentence("README.md's example answers what it says");
        test.answersAsItSays();
        test.due.sentence("README.md says how to use the class: the example has every call of the face");
        test.usesEveryCall();
        test.due.sentence("README.md's command runs");
        test.namesItsCommand();
        test.due.sentence("README.md names every test");
        test.namesEveryTest();
        test.due.sentence("README.md tells the test of every promise");
        test.namesEveryPromise();
        test.due.end();
    }

    /** The lines of the only block of this kind. */
    private List<String> block(String kind) {
        int start = readme.indexOf("```" + kind);
        due.answer("blocks of " + kind, start >= 0 && readme.lastIndexOf("```" + kind) == start, true);
        List<String> from = readme.subList(start + 1, readme.size());
        return from.subList(0, from.indexOf("```"));
    }

    private void answersAsItSays() throws Exception {
        List<String> calls = new ArrayList<>();
        List<String> said = new ArrayList<>();
        StringBuilder body = new StringBuilder();
        for (String line : block("java")) {
            Matcher call = CALL.matcher(line);
            if (call.matches()) {
                calls.add(call.group(1));
                said.add(valueOf(call.group(3)));
                body.append(asking(call.group(1)));
            } else {
                due.answer(line + " is no call whose answer is not said",
                        line.startsWith("codes.") && !line.equals("codes.clear();"), false);
                body.append(line).append('\n');
            }
        }
        List<String> got = answersOf(body.toString());
        due.answer("answers of the example", got.size(), said.size());
        for (int i = 0; i < got.size(); i++) {
            due.answer("README.md: " + calls.get(i), got.get(i), said.get(i));
        }
    }

    private static String valueOf(String answer) throws ReflectiveOperationException {
        if (answer.equals("NONE") || answer.equals("WAITS") || answer.equals("NO_CODE")) {
            return String.valueOf(BoundedCodes.class.getField(answer).getInt(null));
        }
        return answer;
    }

    private static String asking(String call) {
        return "try { answers.add(String.valueOf(" + call + ")); }"
                + " catch (RuntimeException e) { answers.add(\"throws \" + e.getClass().getSimpleName()); }\n";
    }

    /** The example is compiled together with the class, as README.md says, and run. */
    private List<String> answersOf(String body) throws Exception {
        Path out = Files.createTempDirectory("readme");
        try {
            Path source = out.resolve("Example.java");
            Files.writeString(source, "public final class Example {\n"
                    + "public static void run(java.util.List<String> answers) {\n" + body + "}\n}\n");
            int exit = ToolProvider.getSystemJavaCompiler().run(null, null, null,
                    "--release", "17", "-d", out.toString(), MAIN, source.toString());
            due.answer("javac's exit code", exit, 0);
            List<String> answers = new ArrayList<>();
            if (exit == 0) {
                run(out, answers);
            }
            return answers;
        } finally {
            delete(out);
        }
    }

    private static void run(Path out, List<String> answers) throws Exception {
        try (URLClassLoader loader = new URLClassLoader(new URL[] {out.toUri().toURL()}, null)) {
            loader.loadClass("Example").getMethod("run", List.class).invoke(null, answers);
        }
    }

    private static void delete(Path directory) throws IOException {
        List<Path> all;
        try (Stream<Path> paths = Files.walk(directory)) {
            all = new ArrayList<>(paths.toList());
        }
        for (int i = all.size() - 1; i >= 0; i--) {
            Files.delete(all.get(i));
        }
    }

    private void usesEveryCall() {
        String example = String.join("\n", block("java"));
        for (Method method : BoundedCodes.class.getDeclaredMethods()) {
            if (Modifier.isPublic(method.getModifiers())) {
                due.answer("the example has " + method.getName(),
                        example.contains("\ncodes." + method.getName() + "("), true);
            }
        }
    }

    /** That the command runs is seen by its running this test; here, that it is the one that README.md says. */
    private void namesItsCommand() {
        due.answer("the command", String.join("\n", block("sh")), ".ci/run");
        due.answer("the command can be run", Files.isExecutable(Path.of(".ci/run")), true);
    }

    private void namesEveryTest() throws IOException {
        Set<String> named = new TreeSet<>();
        for (String line : readme) {
            Matcher name = NAME_OF_TEST.matcher(line);
            while (name.find()) {
                named.add(name.group(1) + ".java");
            }
        }
        Set<String> there = new TreeSet<>();
        try (Stream<Path> files = Files.list(TESTS)) {
            files.forEach(file -> there.add(file.getFileName().toString()));
        }
        due.answer("the tests that are named", named.toString(), there.toString());
    }

    private void namesEveryPromise() {
        String[] promises = {
            "a new object", "count", "make", "length", "code", "given", "range", "check", "feed", "read", "last",
            "waiting", "sum", "lengths", "clear",
        };
        for (int i = 0; i < promises.length; i++) {
            String start = "| " + (i + 1) + ": " + promises[i] + " ";
            due.answer("rows of promise " + (i + 1), readme.stream().filter(row -> row.startsWith(start)).count(), 1);
        }
    }
}
