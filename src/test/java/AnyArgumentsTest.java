import java.util.List;
import java.util.Map;
import java.util.Random;
import java.util.TreeMap;

/** Any arguments in any state: each call answers, and nothing that the document's numbers leave no place for. */
public final class AnyArgumentsTest {
    private static final int ROUNDS = 2000;
    private static final int ASKED = 100;
    private static final int[] EDGES = {Integer.MIN_VALUE, Integer.MIN_VALUE + 1, -1103515245, -256, -100, -99, -64, -33, -32, -31, -8, -3, -2, -1, 0, 1, 2, 3, 4, 5, 6, 7, 8, 9,
        10, 11, 12, 13, 15, 16, 17, 18, 19, 20, 21, 22, 25, 26, 29, 31, 32, 33, 37, 38, 39, 40, 41, 45, 46, 48, 50, 55, 56, 60, 61, 63, 64, 65, 66, 70, 71, 72, 73,
        99, 100, 101, 107, 108, 127, 128, 147, 148, 255, 256, 257, 580, 581, 599, 600, 601, 65536, Integer.MAX_VALUE - 100, Integer.MAX_VALUE - 1, Integer.MAX_VALUE};
    /** The least and the most that each may answer; a boolean counts 1 or 0. */
    private static final Map<String, long[]> RANGES = new TreeMap<>();
    private static final String EIGHT = "chapter 1 0;chapter 9 5;chapter 2 1;chapter 3 2;chapter 4 3;chapter 5 4;chapter 6 0;chapter 7 1;";
    private static final String SIX = "person 1;person 9;person 2;person 3;person 4;person 5;";
    private static final List<String> LIBRARIES = List.of("", EIGHT + SIX, EIGHT + SIX + "leans 7 0;leans 7 6;leans 6 5;leans 1 0;hears 0 5;hears 5 0;hears 1 0;hears 2 1;lamp 12;",
            EIGHT + "lamp 1;likes 0 0;likes 1 9;", SIX + "hears 0 1;hears 1 0;", "chapter 9 5;person 1;lamp 8;", "chapter 1 0;chapter 1 0;leans 1 0;person 1;person 1;hears 1 0;");
    private static final List<String> YEARS = List.of("", "day;".repeat(40), "read 0;tell 0 0;day;day;read 1;read 7;tell 7 5;", "cold;skip 0;pie 5;day;read 2;tell 2 0;tell 2 5;day;day;", "read 7;", "pie 0;".repeat(40));
    private static final List<String> LOGS = List.of("", "knows 0;", "not 0;".repeat(8), "knows 5;not 0;", "knows 0;not 0;", "knows 1;");

    private final Random random;
    private Asked x = new Asked();

    private AnyArgumentsTest(long seed) {
        random = new Random(seed);
    }

    private static void ranges(long least, long most, String... names) {
        for (String name : names) {
            RANGES.put(name, new long[] {least, most});
        }
    }

    public static void main(String[] args) {
        ranges(-1, 600, "feed", "end", "fault");
        ranges(-2, 2, "text", "count");
        ranges(0, 1, "image", "again");
        ranges(-1, 255, "library", "order");
        ranges(-2, 255, "state", "drawn");
        ranges(-2, 40, "deed");
        ranges(-1, 40, "till");
        ranges(-1, 8, "himself", "feast", "ladder");
        ranges(-1, 5, "bait", "between", "centre", "loss");
        ranges(-1, 63, "news", "tellers");
        ranges(-2, 7, "game");
        ranges(-1, 1_000_000_000, "colds");
        ranges(-2, 8, "fact", "ban");
        ranges(-2, 60, "fits");
        ranges(-2, 40320, "shelf");
        ranges(-1, 72, "lessons", "share");
        ranges(-99, 8, "sweet");
        ranges(-1, 12, "dim");
        ranges(-2, 99, "rumour");
        ranges(-1, 720, "waits");
        ranges(-2, 40 * 48, "after");
        ranges(-1, 60, "odds");
        ranges(-1, 9, "ago");
        Sentence.says("7. No call may ever throw or fail to end, for any arguments in any state");
        for (int round = 0; round < ROUNDS; round++) {
            new AnyArgumentsTest(round).ask();
        }
        Sentence.finish("AnyArgumentsTest");
    }

    private String any(List<String> texts) {
        return texts.get(random.nextInt(texts.size()));
    }

    /** Good texts, spoilt ones, bytes of any kind. */
    private void tell() {
        for (int i = random.nextInt(3); i > 0; i--) {
            Telling.tell(x.x, 0, -1, any(LIBRARIES));
            Telling.tell(x.x, 1, -1, any(YEARS));
            Telling.tell(x.x, 2, -1, any(LOGS));
        }
        if (random.nextInt(4) == 0) {
            StringBuilder text = new StringBuilder(any(LIBRARIES));
            for (int i = random.nextInt(4); i > 0; i--) {
                text.insert(random.nextInt(text.length() + 1), (char) random.nextInt(256));
            }
            Telling.tape(x.x, text.toString());
        }
    }

    private String number() {
        return String.valueOf(random.nextInt(10) == 0 ? random.nextInt() : EDGES[random.nextInt(EDGES.length)]);
    }

    /** A number, most times one by which there is something to answer. */
    private String likely() {
        return random.nextInt(4) == 0 ? number() : String.valueOf(random.nextInt(3));
    }

    private void ask() {
        tell();
        String[] names = RANGES.keySet().toArray(new String[0]);
        for (int i = 0; i < ASKED; i++) {
            String name = names[random.nextInt(names.length)];
            StringBuilder call = new StringBuilder(name);
            for (int k = Asked.takes(name); k > 0; k--) {
                call.append(' ').append(random.nextBoolean() ? likely() : number());
            }
            String answer = x.answer(call.toString());
            long[] range = RANGES.get(name);
            boolean may = answer.matches("true|false|-?[0-9]+") && isWithin(answer, range);
            Sentence.due(call + " (" + answer + ") answered what it may", String.valueOf(may), "true");
        }
    }

    private static boolean isWithin(String answer, long[] range) {
        long number = answer.equals("true") ? 1 : answer.equals("false") ? 0 : Long.parseLong(answer);
        return number >= range[0] && number <= range[1];
    }
}
