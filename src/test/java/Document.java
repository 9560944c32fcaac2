import java.io.IOException;
import java.nio.file.Files;
import java.nio.file.Path;
import java.util.ArrayList;
import java.util.List;

/** ../shared/DOC.md, and which of its words have been gone through. */
final class Document {
    private static final Path PLACE = Path.of("../shared/DOC.md");

    private final Checks checks;
    private final List<String> gone = new ArrayList<>();

    Document(Checks checks) {
        this.checks = checks;
    }

    /**
     * The words that come next in the document, and the test that fails where they do not hold. A call that throws
     * where no test waits for it ends this test alone.
     */
    void says(String words, Runnable test) {
        gone.add(words);
        checks.says(words);
        checks.due("the test", Checks.outcome(() -> {
            test.run();
            return 0;
        }), "0");
    }

    /** Words that promise neither an answer nor a change of state. */
    void promisesNothing(String words) {
        gone.add(words);
    }

    /** Nothing that the document says has been left out, and nothing has been gone through that it does not say. */
    void finish() throws IOException {
        checks.says("The document, word by word");
        String ours = String.join(" ", gone);
        String theirs = prose();
        int same = 0;
        while (same < Math.min(ours.length(), theirs.length()) && ours.charAt(same) == theirs.charAt(same)) {
            same++;
        }
        String before = ours.substring(Math.max(0, same - 40), same);
        checks.due("behind \"" + before + "\" the test", ours.substring(same), theirs.substring(same));
    }

    /** All that the document says in words: without heads, the face, and the signature before each promise. */
    private static String prose() throws IOException {
        return Files.readString(PLACE)
                .replaceAll("(?s)```.*?```", "")
                .replaceAll("(?m)^#.*$", "")
                .replaceAll("(?m)^`[^`]*`:", "")
                .strip()
                .replaceAll("\\s+", " ");
    }

    /** What stands in the braces of the class, line by line. */
    static List<String> face() throws IOException {
        return Files.readString(PLACE).lines()
                .filter(line -> line.startsWith("    public "))
                .map(String::strip)
                .toList();
    }
}
