import java.io.IOException;
import java.nio.file.Files;
import java.nio.file.Path;

/** The sentences of ../shared/DOC.md (.ci/run starts tests in the root): which one is tested, and what was wrong with it. */
final class Sentences {
    private static final String DOCUMENT = readDocument();
    private static String place = "";
    private static String words = "";
    private static int wrong = 0;
    private static int said = 0;

    private Sentences() {
    }

    private static String readDocument() {
        try {
            return Files.readString(Path.of("../shared/DOC.md"));
        } catch (IOException gone) {
            throw new IllegalStateException("../shared/DOC.md can't be read", gone);
        }
    }

    /** The sentence whose test begins; it has to stand in the document below that heading, word by word. */
    static void says(String heading, String sentence) {
        place = heading;
        words = sentence;
        said++;
        int from = DOCUMENT.indexOf("\n## " + heading);
        int to = from < 0 ? -1 : DOCUMENT.indexOf("\n## ", from + 1);
        String section = from < 0 ? "" : DOCUMENT.substring(from, to < 0 ? DOCUMENT.length() : to);
        if (!section.contains(sentence)) {
            wrong("the document does not say so there");
        }
    }

    static void wrong(String what) {
        wrong++;
        System.out.println(place + " \"" + words + "\": " + what);
    }

    /** Ends the test: exit code 1 if anything was wrong. */
    static void end() {
        System.out.println(said + " sentences, " + wrong + " answers wrong");
        if (wrong != 0) {
            System.exit(1);
        }
    }
}
