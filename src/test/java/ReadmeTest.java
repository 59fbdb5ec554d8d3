import java.io.IOException;
import java.lang.reflect.Method;
import java.lang.reflect.Modifier;
import java.net.URL;
import java.net.URLClassLoader;
import java.nio.file.Files;
import java.nio.file.Path;
import java.util.ArrayList;
import java.util.Comparator;
import java.util.List;
import java.util.TreeSet;
import java.util.regex.Matcher;
import java.util.regex.Pattern;
import java.util.stream.Stream;
import javax.tools.ToolProvider;

/** What README.md says: its example answers what its comments tell, and what it names is there. */
public final class ReadmeTest {
    private static final Path TESTS = Path.of("src/test/java");
    private static final Pattern ANSWERED = Pattern.compile("\\s*(x\\..*\\));\\s*// = (-?\\d+)\\b.*");
    private static final Pattern THROWING = Pattern.compile("\\s*(x\\..*\\));\\s*// throws (\\w+)\\b.*");
    private static final Pattern NAMED = Pattern.compile("`([^`\n]+)`");

    private final Check check = new Check();
    private final String readme;
    private final List<String> calls = new ArrayList<>();
    private final List<String> due = new ArrayList<>();

    private ReadmeTest(String readme) {
        this.readme = readme;
    }

    public static void main(String[] args) throws IOException, ReflectiveOperationException {
        ReadmeTest test = new ReadmeTest(Files.readString(Path.of("README.md")));
        test.example();
        test.everyCallIsTold();
        test.everyTestIsTold();
        test.whatIsNamedIsThere();
        test.commands();
        test.check.finish("ReadmeTest");
    }

    private String block(String language) {
        String start = "```" + language + "\n";
        int from = readme.indexOf(start);
        check.same("README.md has a block of " + language, String.valueOf(from >= 0), "true");
        return readme.substring(from + start.length(), readme.indexOf("```", from + start.length()));
    }

    private void example() throws IOException, ReflectiveOperationException {
        StringBuilder body = new StringBuilder();
        for (String line : block("java").split("\n")) {
            body.append(asking(line)).append("\n");
        }
        List<?> got = answersOf(body.toString());
        check.same("enough answers are told", String.valueOf(due.size() >= 10), "true");
        check.equal("as many answers", got.size(), due.size());
        for (int k = 0; k < due.size(); k++) {
            check.same("README.md: " + calls.get(k), got.get(k).toString(), due.get(k));
        }
    }

    /** The line, with its answer kept if its comment tells one. */
    private String asking(String line) {
        Matcher answered = ANSWERED.matcher(line);
        if (answered.matches()) {
            calls.add(answered.group(1));
            due.add(answered.group(2));
            return "got.add(String.valueOf(" + answered.group(1) + "));";
        }
        Matcher throwing = THROWING.matcher(line);
        if (throwing.matches()) {
            calls.add(throwing.group(1));
            due.add(throwing.group(2));
            return "try { " + throwing.group(1) + "; got.add(\"nothing thrown\"); }"
                    + " catch (RuntimeException e) { got.add(e.getClass().getSimpleName()); }";
        }
        return line;
    }

    private List<?> answersOf(String body) throws IOException, ReflectiveOperationException {
        Path folder = Files.createTempDirectory("readme");
        try {
            Path source = folder.resolve("ReadmeExample.java");
            Files.writeString(source, "public final class ReadmeExample {\n"
                    + "public static java.util.List<String> answers() {\n"
                    + "java.util.List<String> got = new java.util.ArrayList<>();\n"
                    + body + "return got;\n}\n}\n");
            int status = ToolProvider.getSystemJavaCompiler().run(null, null, null,
                    "-cp", System.getProperty("java.class.path"), "-d", folder.toString(), source.toString());
            check.equal("the example compiles", status, 0);
            try (URLClassLoader loader = new URLClassLoader(new URL[] {folder.toUri().toURL()})) {
                return (List<?>) loader.loadClass("ReadmeExample").getMethod("answers").invoke(null);
            }
        } finally {
            remove(folder);
        }
    }

    private static void remove(Path folder) throws IOException {
        try (Stream<Path> files = Files.walk(folder)) {
            for (Path file : files.sorted(Comparator.reverseOrder()).toList()) {
                Files.delete(file);
            }
        }
    }

    private void everyCallIsTold() {
        for (Method method : SharingRoom.class.getDeclaredMethods()) {
            if (Modifier.isPublic(method.getModifiers())) {
                Pattern call = Pattern.compile("`" + method.getName() + "\\(([^`]*)\\)`");
                Matcher told = call.matcher(readme);
                check.same("README.md tells " + method.getName(), String.valueOf(told.find()), "true");
                int parameters = told.group(1).isEmpty() ? 0 : told.group(1).split(",").length;
                check.equal("parameters of " + method.getName(), parameters, method.getParameterCount());
            }
        }
    }

    private void everyTestIsTold() throws IOException {
        for (String test : classesUnder(TESTS)) {
            if (test.endsWith("Test")) {
                check.same("README.md names " + test, String.valueOf(readme.contains("| `" + test + "` |")), "true");
            }
        }
    }

    private static TreeSet<String> classesUnder(Path folder) throws IOException {
        TreeSet<String> names = new TreeSet<>();
        try (Stream<Path> files = Files.list(folder)) {
            for (Path file : files.toList()) {
                names.add(file.getFileName().toString().replace(".java", ""));
            }
        }
        return names;
    }

    /** A name that begins with a capital is a class of the program or of its tests. */
    private void whatIsNamedIsThere() throws IOException {
        TreeSet<String> known = classesUnder(TESTS);
        known.add("SharingRoom");
        for (Class<?> nested : SharingRoom.class.getDeclaredClasses()) {
            known.add(nested.getSimpleName());
            check.same("README.md names " + nested.getSimpleName(),
                    String.valueOf(readme.contains("`" + nested.getSimpleName() + "`")), "true");
        }
        Matcher named = NAMED.matcher(readme);
        while (named.find()) {
            String name = named.group(1);
            if (name.matches("[A-Z]\\w*")) {
                check.same("there is " + name, String.valueOf(known.contains(name)), "true");
            } else if (name.contains("/")) {
                check.same("there is " + name, String.valueOf(Files.exists(Path.of(name))), "true");
            }
        }
    }

    private void commands() {
        check.same("the command", block("sh").strip(), ".ci/run");
        check.same("can be run", String.valueOf(Files.isExecutable(Path.of(".ci/run"))), "true");
    }
}
