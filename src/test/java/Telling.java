import java.nio.charset.StandardCharsets;

/** Cuts texts into the numbers that feed() takes. */
final class Telling {
    private Telling() {
    }

    /** The k-th five numbers of a text, filled up by blanks. */
    static int[] fives(String text, int k) {
        byte[] bytes = text.getBytes(StandardCharsets.ISO_8859_1);
        int[] five = new int[5];
        for (int i = 0; i < 20; i++) {
            int at = 20 * k + i;
            five[i / 4] = five[i / 4] << 8 | (at < bytes.length ? bytes[at] & 255 : 32);
        }
        return five;
    }

    static int feeds(String text) {
        return (text.length() + 19) / 20;
    }

    /** Puts a text on an empty tape. */
    static void tape(OneReader x, String text) {
        x.end(0);
        for (int k = 0; k < feeds(text); k++) {
            int[] f = fives(text, k);
            x.feed(f[0], f[1], f[2], f[3], f[4]);
        }
        x.end(text.length());
    }

    static int tell(OneReader x, int sort, int at, String text) {
        tape(x, text);
        return x.text(sort, at);
    }
}
