import java.io.IOException;
import java.nio.file.Files;
import java.nio.file.Path;
import java.util.ArrayList;
import java.util.List;

/** Tests of one sentence of the document each. A sentence is told by its heading and its words, which must stand there. */
final class Sentences {
    interface Test {
        void run(Due due);
    }

    private static final Path DOCUMENT = Path.of("../shared/DOC.md");

    private final String document;
    private final List<String> tested = new ArrayList<>();
    private final List<String> broken = new ArrayList<>();
    private int asked;

    Sentences() {
        document = readDocument();
    }

    /** Empty if it is not there: the answers are tested all the same, but not where their sentences stand. */
    private static String readDocument() {
        try {
            return Files.readString(DOCUMENT);
        } catch (IOException e) {
            System.out.println("no document at " + DOCUMENT + ": the words of its sentences are not looked up");
            return "";
        }
    }

    void holds(String heading, String words, Test test) {
        String sentence = heading + ": " + words;
        Due due = new Due();
        due.holds("the document says so under its heading", document.isEmpty() || under(heading).contains(words));
        due.holds("it has no other test", !tested.contains(sentence));
        int before = due.howManyAsked();
        try {
            test.run(due);
        } catch (RuntimeException | StackOverflowError e) {
            due.holds("no call throws, but one threw " + e, false);
        }
        due.holds("something was asked", due.howManyAsked() > before);
        asked += due.howManyAsked();
        tested.add(sentence);
        if (due.anyWrong()) {
            broken.add(sentence);
            System.out.println("  ^ broken: " + sentence);
        }
    }

    private String under(String heading) {
        int start = document.indexOf("\n## " + heading);
        if (start < 0) {
            return "";
        }
        int end = document.indexOf("\n## ", start + 1);
        return document.substring(start, end < 0 ? document.length() : end);
    }

    List<String> tested() {
        return tested;
    }

    List<String> broken() {
        return broken;
    }

    void end() {
        System.out.println(tested.size() + " sentences, " + asked + " answers, " + broken.size() + " sentences broken");
        System.exit(broken.isEmpty() && !tested.isEmpty() ? 0 : 1);
    }
}
