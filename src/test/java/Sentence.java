import java.io.IOException;
import java.nio.file.Files;
import java.nio.file.Path;

/** The sentence of the document that is held against the class just now, and how many answers were not as due. */
final class Sentence {
    private static final Path DOCUMENT = Path.of("../shared/DOC.md");
    private static final String WORDS = document();
    private static String now = "";
    private static int sentences = 0;
    private static int asked = 0;
    private static int wrong = 0;

    private Sentence() {
    }

    private static String document() {
        try {
            return Files.exists(DOCUMENT) ? oneLine(Files.readString(DOCUMENT)) : "";
        } catch (IOException e) {
            return "";
        }
    }

    private static String oneLine(String text) {
        return text.replaceAll("\\s+", " ");
    }

    /** What follows tests these words; they must stand in the document as they are, so that none is tested that it does not say. */
    static void says(String words) {
        now = words;
        sentences++;
        if (!WORDS.isEmpty() && !WORDS.contains(oneLine(words))) {
            wrong++;
            System.out.println("the document does not say: " + words);
        }
    }

    static void due(String call, String got, String want) {
        asked++;
        if (!got.equals(want)) {
            wrong++;
            System.out.println("'" + now + "': " + call + " answered " + got + ", due is " + want);
        }
    }

    static void due(String call, long got, long want) {
        due(call, Long.toString(got), Long.toString(want));
    }

    static void finish(String test) {
        String told = sentences + " sentences, " + asked + " answers";
        System.out.println(test + ": " + told + (wrong == 0 ? " as due" : ", " + wrong + " wrong"));
        if (wrong != 0) {
            System.exit(1);
        }
    }
}
