import java.io.IOException;
import java.nio.file.Files;
import java.nio.file.Path;

/** The sentence of the document, or of LANGUAGE.md, that is held against the class just now, and how many answers were not as due. */
final class Sentence {
    private static final String WORDS = words("../shared/DOC.md") + words("../shared/LANGUAGE.md");
    private static String now = "";
    private static int sentences = 0;
    private static int asked = 0;
    private static int wrong = 0;

    private Sentence() {
    }

    private static String words(String file) {
        try {
            return Files.exists(Path.of(file)) ? oneLine(Files.readString(Path.of(file))) : "";
        } catch (IOException e) {
            return "";
        }
    }

    private static String oneLine(String text) {
        return text.replaceAll("\\s+", " ");
    }

    /** What follows tests these words; they must stand in one of the two as they are, so that none is tested that is not said. */
    static void says(String words) {
        now = words;
        sentences++;
        if (!WORDS.isEmpty() && !WORDS.contains(oneLine(words))) {
            wrong++;
            System.out.println("nobody says: " + words);
        }
    }

    static void due(String call, String got, String want) {
        asked++;
        if (!got.equals(want)) {
            wrong++;
            System.out.println("'" + now + "': " + call + " answered " + got + ", due is " + want);
        }
    }

    static void due(String call, long got, long want) {
        due(call, Long.toString(got), Long.toString(want));
    }

    static void finish(String test) {
        String told = sentences + " sentences, " + asked + " answers";
        System.out.println(test + ": " + told + (wrong == 0 ? " as due" : ", " + wrong + " wrong"));
        if (wrong != 0) {
            System.exit(1);
        }
    }
}
