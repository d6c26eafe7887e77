import java.nio.file.Files;
import java.nio.file.Path;
import java.util.Set;
import java.util.TreeSet;
import java.util.regex.Matcher;
import java.util.regex.Pattern;

/** What can be seen of LANGUAGE.md's rules in the text of the class. It runs where src/ is. */
public final class LanguageTest {
    private static final String[] FORBIDDEN = {"import", "package", "try", "catch", "finally", "throw", "throws", "assert",
        "synchronized", "volatile", "native", "protected", "Object", "Float", "Double", "System", "Thread", "strictfp", "null"};
    private static final Set<String> MATH = Set.of("abs", "floorMod");

    public static void main(String[] args) throws Exception {
        Due due = new Due();
        String source = Files.readString(Path.of("src/main/java/SlippedPlaces.java"));
        due.holds("signs 1 to 127 alone", source.chars().allMatch(c -> c > 0 && c < 128));
        String code = source.replaceAll("(?s)/\\*.*?\\*/", "").replaceAll("//[^\n]*", "");
        for (String word : FORBIDDEN) {
            due.holds("no '" + word + "'", !Pattern.compile("\\b" + word + "\\b").matcher(code).find());
        }
        due.holds("no lambda, no method reference", !code.contains("->") && !code.contains("::"));
        due.holds("no static block", !Pattern.compile("static\\s*\\{").matcher(code).find());
        Set<String> used = new TreeSet<>();
        Matcher math = Pattern.compile("Math\\.(\\w+)").matcher(code);
        while (math.find()) {
            used.add(math.group(1));
        }
        due.holds("of Math only " + MATH + ": " + used, MATH.containsAll(used));
        staticFieldsAreFinal(due, code);
        methodsAreShort(due, code);
        due.end();
    }

    private static void staticFieldsAreFinal(Due due, String code) {
        Matcher m = Pattern.compile("(?m)^.*\\bstatic\\b.*;\\s*$").matcher(code);
        while (m.find()) {
            due.holds("final: " + m.group().trim(), m.group().contains("final"));
        }
    }

    private static void methodsAreShort(Due due, String code) {
        Matcher m = Pattern.compile("(?m)^( +)(?!private static final class)[\\w\\[\\] ]+\\(([^()]*)\\) \\{$").matcher(code);
        int methods = 0;
        while (m.find()) {
            String line = m.group().trim();
            if (line.matches("(if|for|while|switch|else|\\}).*")) {
                continue;
            }
            methods++;
            int end = code.indexOf("\n" + m.group(1) + "}", m.end());
            long lines = code.substring(m.start(), end).lines().count();
            due.holds("at most sixty lines: " + line, lines <= 60);
            due.holds("at most seven parameters: " + line, m.group(2).split(",").length <= 7);
        }
        due.holds("methods were found", methods > 40);
    }
}
