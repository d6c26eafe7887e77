import java.io.IOException;
import java.net.URL;
import java.net.URLClassLoader;
import java.nio.file.Files;
import java.nio.file.Path;
import java.util.ArrayList;
import java.util.List;
import java.util.regex.Matcher;
import java.util.regex.Pattern;
import java.util.stream.Stream;
import javax.tools.ToolProvider;

/**
 * README.md: its Java is compiled and run as it stands there, block behind block, and each call that begins a line must
 * answer what the comment behind it begins with; every call of the face is told so, and every test is named. It runs
 * where README.md is.
 */
public final class ReadmeTest {
    private static final Path README = Path.of("README.md");
    private static final Pattern BLOCK = Pattern.compile("(?ms)^```java\n(.*?)^```$");
    private static final Pattern CALL = Pattern.compile("((?:\\w+\\.\\w+\\()?x\\.(\\w+)\\(.*?\\)+);(.*)");
    private static final Pattern ANSWER = Pattern.compile("\\s+// (-?[\\w.]+)(?:: .*)?");
    private static final Pattern CONSTANT = Pattern.compile("NONE|UNKNOWN|OUTSIDE|STATE|FULL");
    private static final String[] FACE = {"letter", "blank", "fault", "disk", "set", "harm", "format", "of", "place", "as",
        "read", "write", "pending", "runs", "ticks", "rate", "mean", "skew", "count", "digest"};

    private final Due due = new Due();
    private final List<String> calls = new ArrayList<>();
    private final List<String> named = new ArrayList<>();

    public static void main(String[] args) throws Exception {
        ReadmeTest test = new ReadmeTest();
        String readme = Files.readString(README);
        test.answersHold(test.program(readme));
        test.everyCallIsTold();
        test.everyTestIsNamed(readme);
        test.due.end();
    }

    /** The README's lines as a class whose answers() are what was answered and what is due, in turn. */
    private String program(String readme) {
        StringBuilder all = new StringBuilder("public final class ReadmeCalls {\n"
            + "public static java.util.List<String> answers() {\n"
            + "java.util.List<String> answers = new java.util.ArrayList<>();\n");
        Matcher block = BLOCK.matcher(readme);
        while (block.find()) {
            block.group(1).lines().forEach(line -> all.append(statement(line)).append('\n'));
        }
        return all.append("return answers;\n}\n}\n").toString();
    }

    private String statement(String line) {
        Matcher call = CALL.matcher(line);
        if (!call.matches()) {
            return line;
        }
        Matcher answer = ANSWER.matcher(call.group(3));
        boolean told = answer.matches();
        due.holds("README.md tells what this answers: " + line, told);
        if (!told) {
            return call.group(1) + ";";
        }
        calls.add(call.group(1));
        named.add(call.group(2));
        String want = CONSTANT.matcher(answer.group(1)).matches() ? "SlippedPlaces." + answer.group(1) : answer.group(1);
        return "answers.add(String.valueOf(" + call.group(1) + "));\nanswers.add(String.valueOf(" + want + "));";
    }

    private void answersHold(String program) throws Exception {
        Path out = Files.createTempDirectory("readme");
        try {
            Path source = out.resolve("ReadmeCalls.java");
            Files.writeString(source, program);
            int refused = ToolProvider.getSystemJavaCompiler().run(null, null, null,
                "-d", out.toString(), "-cp", System.getProperty("java.class.path"), source.toString());
            due.is("README.md compiles", refused, 0);
            if (refused == 0) {
                compare(answersOf(out));
            }
        } finally {
            clear(out);
        }
    }

    private static List<String> answersOf(Path classes) throws Exception {
        List<String> answers = new ArrayList<>();
        try (URLClassLoader loader = new URLClassLoader(new URL[] {classes.toUri().toURL()})) {
            for (Object answer : (List<?>) loader.loadClass("ReadmeCalls").getMethod("answers").invoke(null)) {
                answers.add((String) answer);
            }
        }
        return answers;
    }

    private void compare(List<String> answers) {
        due.is("answers", answers.size(), 2L * calls.size());
        for (int i = 0; i < calls.size(); i++) {
            String got = answers.get(2 * i);
            String want = answers.get(2 * i + 1);
            due.holds("README.md tells that " + calls.get(i) + " answers " + want + ", it answers " + got, got.equals(want));
        }
    }

    private void everyCallIsTold() {
        for (String method : FACE) {
            due.holds("README.md tells a call of " + method + "() with its answer", named.contains(method));
        }
        due.holds("an object is used for at most 512 calls", calls.size() < 400);
    }

    private void everyTestIsNamed(String readme) throws IOException {
        due.holds("README.md tells how the tests are run", readme.contains("\n.ci/run\n"));
        try (Stream<Path> files = Files.list(Path.of("src/test/java"))) {
            files.map(file -> file.getFileName().toString()).filter(name -> name.endsWith("Test.java")).sorted()
                .forEach(name -> due.holds("README.md names " + name, readme.contains("`" + name.replace(".java", "") + "`")));
        }
    }

    private static void clear(Path directory) throws IOException {
        try (Stream<Path> files = Files.list(directory)) {
            for (Path file : files.toList()) {
                Files.delete(file);
            }
        }
        Files.delete(directory);
    }
}
