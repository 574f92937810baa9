import java.util.ArrayList;
import java.util.Collections;
import java.util.List;
import java.util.Random;

/** No answer hangs on what was asked ahead: each is as of an object that was asked nothing else; and no question changes what is told. */
public final class AskedAgainTest {
    private static final int BLOCK = 400;
    private static final String FIRST = "chapter 3 0;chapter 2 1;chapter 4 0;chapter 1 2;chapter 5 3;leans 2 0;leans 3 1;leans 3 0;leans 4 3;"
            + "likes 0 7;likes 1 2;likes 2 1;likes 3 0;lamp 5;person 2;person 3;person 9;person 1;hears 1 0;hears 2 1;hears 0 3;";
    private static final String SECOND = "chapter 9 0;chapter 1 1;likes 1 0;lamp 3;person 1;person 1;hears 0 1;hears 1 0;";
    private static final String YEAR = "read 0;tell 0 0;skip 1;read 3;pie 2;day;cold;day;read 2;tell 2 0;day;day;read 3;";
    private static final String SHORT_YEAR = "pie 1;read 1;tell 1 1;day;";

    public static void main(String[] args) {
        Sentence.says("Nothing is promised beyond the answers and state changes described above");
        List<String> calls = calls();
        List<String> answers = new ArrayList<>();
        for (String call : calls) {
            answers.add(told().answer(call));
        }
        Random random = new Random(1);
        for (int round = 0; round < 4; round++) {
            List<Integer> order = new ArrayList<>();
            for (int i = 0; i < calls.size(); i++) {
                order.add(i);
            }
            Collections.shuffle(order, random);
            for (int from = 0; from < order.size(); from += BLOCK) {
                Asked x = told();
                for (int i : order.subList(from, Math.min(from + BLOCK, order.size()))) {
                    Sentence.due(calls.get(i), x.answer(calls.get(i)), answers.get(i));
                }
                x.asks("fault 0 = 2", "fault 1 = 5", "count 0 = 2", "count 1 = 2", "count 2 = 2", "again 0 = false", "end 8 = N", "end 7 = 7", "text 0 1 = 1", "library 1 2 = 9");
            }
        }
        Sentence.finish("AskedAgainTest");
    }

    /** Two of each sort, a FAULT, a tape. */
    private static Asked told() {
        return Asked.on(FIRST).library(SECOND).year(YEAR).year(SHORT_YEAR).log("knows 1;not 2;").log("not 0;").tape("lamp 0;").asks("text 0 1 = N").tape("lamp 9;");
    }

    private static List<String> calls() {
        List<String> calls = new ArrayList<>();
        for (int library = -1; library <= 2; library++) {
            ofLibrary(calls, library);
            for (int other = 0; other <= 2; other++) {
                ofTwo(calls, library + " " + other);
            }
        }
        for (int k = -1; k <= 14; k++) {
            for (int what = 0; what < 3; what++) {
                calls.add("deed 0 " + k + " " + what);
                calls.add("fact 0 " + k + " " + what);
                calls.add("deed 1 " + k + " " + what);
            }
        }
        return calls;
    }

    private static void ofLibrary(List<String> calls, int l) {
        for (int k = -1; k <= 5; k++) {
            for (int n : new int[] {0, 1, 2, 3, 9, 20}) {
                calls.add("himself " + l + " " + n + " " + k);
                calls.add("lessons " + l + " " + n + " " + k);
                calls.add("sweet " + l + " " + k + " " + n);
                calls.add("news " + l + " " + k + " " + n);
                calls.add("rumour " + l + " " + k + " " + n);
                calls.add("waits " + l + " " + (1 << n) + " " + k + " true");
                calls.add("drawn " + l + " " + n + " " + 10 * k + " " + n);
                calls.add("between " + l + " " + k + " " + n);
                calls.add("feast " + l + " " + n + " " + k + " 0");
                calls.add("bait " + l + " " + k + " " + n + " -1");
                calls.add("bait " + l + " " + k + " " + n + " 0");
                calls.add("colds " + l + " 3 " + n + " " + k + " false");
            }
            calls.add("rumour " + l + " " + k + " -1");
            calls.add("ladder " + l + " " + k);
            calls.add("share " + l + " " + k + " true");
            calls.add("loss " + l + " " + k + " false");
            calls.add("loss " + l + " " + k + " true");
            calls.add("feast " + l + " 2 " + k + " -1");
        }
        for (int n = 0; n <= 20; n += 2) {
            calls.add("order " + l + " " + n + " true");
            calls.add("game " + l + " " + n + " true");
            calls.add("tellers " + l + " " + n + " true");
            calls.add("dim " + l + " " + n);
            calls.add("shelf " + l + " " + n);
            calls.add("shelf " + l + " " + (n + 1));
            calls.add("library " + l + " " + 3 * n);
        }
        for (String flag : new String[] {" true", " false"}) {
            calls.add("ban " + l + flag);
            calls.add("centre " + l + flag);
        }
    }

    /** Of a LIBRARY with a YEAR, or with a LOG. */
    private static void ofTwo(List<String> calls, String both) {
        calls.add("till " + both);
        for (int n = 0; n <= 13; n += 3) {
            for (int what : new int[] {0, 1, 2, 3, 4, 5, 10, 12, 20, 21, 100, 108}) {
                calls.add("state " + both + " " + n + " " + what);
            }
        }
        for (int what = 0; what <= 5; what++) {
            calls.add("after " + both + " " + what);
            calls.add("fits " + both + " " + what);
            calls.add("fits " + both + " " + (10 + what));
            calls.add("odds " + both + " " + what + " true");
        }
        calls.add("ago " + both + " true");
        calls.add("ago " + both + " false");
    }
}
