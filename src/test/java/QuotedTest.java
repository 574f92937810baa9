import java.io.IOException;
import java.nio.file.Files;
import java.nio.file.Path;
import java.util.Arrays;
import java.util.List;
import java.util.regex.Matcher;
import java.util.regex.Pattern;
import java.util.stream.Collectors;
import java.util.stream.Stream;

/** Each word of the document's terms and promises stands in a sentence that some test quotes by Sentence.says(). */
public final class QuotedTest {
    private static final Path DOCUMENT = Path.of("../shared/DOC.md");
    private static final Path TESTS = Path.of("src/test/java");
    private static final Pattern QUOTE = Pattern.compile("says\\(((?:\\s*\"(?:[^\"\\\\]|\\\\.)*\"\\s*\\+?)+)\\)");
    private static final Pattern PIECE = Pattern.compile("\"((?:[^\"\\\\]|\\\\.)*)\"");
    /** Headings, a promise's face, signs that part sentences. */
    private static final Pattern NO_WORDS = Pattern.compile("```(text)?|## (Terms|Promise \\d+: [A-Za-z ]+)|`[^`]*`:|\\d\\. |[\\s;:.,()]");

    public static void main(String[] args) throws IOException {
        if (!Files.exists(DOCUMENT)) {
            System.out.println("QuotedTest: no document here");
            return;
        }
        String words = Files.readString(DOCUMENT).replaceAll("\\s+", " ");
        String promised = words.substring(words.indexOf("## Terms"), words.indexOf("## Not promised"));
        List<String> left = leftOver(promised);
        left.forEach(part -> System.out.println("no test quotes: " + part));
        System.out.println("QuotedTest: " + (left.isEmpty() ? "every word is quoted" : left.size() + " wrong"));
        if (!left.isEmpty()) {
            System.exit(1);
        }
    }

    private static List<String> leftOver(String promised) throws IOException {
        char[] marked = promised.toCharArray();
        for (String quote : quotes()) {
            for (int at = promised.indexOf(quote); at >= 0; at = promised.indexOf(quote, at + 1)) {
                Arrays.fill(marked, at, at + quote.length(), '\0');
            }
        }
        return Stream.of(new String(marked).split("\0+"))
                .filter(part -> !NO_WORDS.matcher(part).replaceAll("").isEmpty())
                .collect(Collectors.toList());
    }

    private static List<String> quotes() throws IOException {
        StringBuilder sources = new StringBuilder();
        try (Stream<Path> files = Files.list(TESTS)) {
            for (Path file : files.collect(Collectors.toList())) {
                sources.append(Files.readString(file));
            }
        }
        return QUOTE.matcher(sources).results().map(quote -> joined(quote.group(1))).collect(Collectors.toList());
    }

    /** What Java makes of "one piece" + "another". */
    private static String joined(String pieces) {
        StringBuilder text = new StringBuilder();
        Matcher piece = PIECE.matcher(pieces);
        while (piece.find()) {
            text.append(piece.group(1).translateEscapes());
        }
        return text.toString();
    }
}
