/** Each promise of ../shared/DOC.md by hand: ordinary inputs, the edges that the document names, wrong inputs. */
public final class PromisesTest {
    private static final int NONE = -1;
    private static final int FAR = Integer.MAX_VALUE;
    private static final int LOW = Integer.MIN_VALUE;

    /** Four CHAPTERS, three PEOPLE in a row; most of what is due below is worked out for it on paper. */
    private static final String SMALL = "chapter 3 0;chapter 2 1;chapter 4 0;chapter 1 2;leans 2 0;leans 3 1;leans 3 0;"
            + "likes 0 7;likes 1 2;likes 2 1;lamp 5;person 2;person 3;person 9;hears 1 0;hears 2 1;";
    /** A CHAPTER that is too long for the LAMP, two PEOPLE who hear each other and forget at once. */
    private static final String DARK = "chapter 9 0;chapter 1 1;likes 1 0;lamp 3;person 1;person 1;hears 0 1;hears 1 0;";
    /** Up to its END, 12, all can be: the last DEED reads a CHAPTER again. */
    private static final String YEAR = "read 0;tell 0 0;skip 1;read 3;pie 2;day;cold;day;read 2;tell 2 0;day;day;read 3;";
    private static final String LOG = "knows 1;not 2;";

    private static int wrong = 0;
    private static int asked = 0;

    public static void main(String[] args) {
        newObject();
        feed();
        end();
        text();
        faultsOfSort1();
        faultsOfSorts2To4();
        fault();
        library();
        deed();
        till();
        state();
        himself();
        bait();
        order();
        news();
        tellers();
        game();
        colds();
        fact();
        fits();
        drawn();
        shelf();
        lessons();
        feast();
        sweet();
        ladder();
        dim();
        ban();
        share();
        rumour();
        between();
        centre();
        loss();
        waits();
        after();
        odds();
        ago();
        count();
        image();
        again();
        many();
        System.out.println(wrong == 0 ? "PromisesTest: " + asked + " answers as due" : "PromisesTest: " + wrong + " wrong");
        if (wrong != 0) {
            System.exit(1);
        }
    }

    private static void due(String call, long got, long want) {
        asked++;
        if (got != want) {
            wrong++;
            System.out.println(call + " answered " + got + ", due is " + want);
        }
    }

    private static void due(String call, boolean got, boolean want) {
        due(call, got ? 1 : 0, want ? 1 : 0);
    }

    /** A new object with LIBRARIES 0 and 1, YEAR 0, LOG 0. */
    private static OneReader small() {
        OneReader x = new OneReader();
        due("text SMALL", Telling.tell(x, 0, NONE, SMALL), 0);
        due("text DARK", Telling.tell(x, 0, NONE, DARK), 1);
        due("text YEAR", Telling.tell(x, 1, NONE, YEAR), 0);
        due("text LOG", Telling.tell(x, 2, NONE, LOG), 0);
        return x;
    }

    private static OneReader of(String library) {
        OneReader x = new OneReader();
        due("text " + library, Telling.tell(x, 0, NONE, library), 0);
        return x;
    }

    private static OneReader withLog(String library, String log) {
        OneReader x = of(library);
        due("text " + log, Telling.tell(x, 2, NONE, log), 0);
        return x;
    }

    private static OneReader withYear(String library, String year) {
        OneReader x = of(library);
        due("text " + year, Telling.tell(x, 1, NONE, year), 0);
        return x;
    }

    private static String times(int n, String s) {
        return s.repeat(n);
    }

    // 1
    private static void newObject() {
        OneReader x = new OneReader();
        due("NONE", OneReader.NONE, -1);
        for (int sort = 0; sort < 3; sort++) {
            due("new count " + sort, x.count(sort), 0);
        }
        for (int k = 0; k < 3; k++) {
            due("new again " + k, x.again(k), false);
        }
        due("new fault 0", x.fault(0), 0);
        due("new fault 1", x.fault(1), NONE);
        due("new end 0", x.end(0), 0);
        due("new end 1", x.end(1), NONE);
        due("new library", x.library(0, 0), NONE);
        due("new deed", x.deed(0, NONE, 0), -2);
        due("new fact", x.fact(0, NONE, 0), -2);
    }

    // 2
    private static void feed() {
        OneReader x = new OneReader();
        for (int i = 1; i <= 30; i++) {
            due("feed " + i, x.feed(0x20202020, 0x20202020, 0x20202020, 0x20202020, 0x20202020), 20 * i);
        }
        due("feed beyond 600", x.feed(0, 0, 0, 0, 0), NONE);
        due("end 581", x.end(581), 581);
        due("feed from 581", x.feed(0, 0, 0, 0, 0), NONE);
        due("end 580", x.end(580), 580);
        due("feed from 580", x.feed(0x6c616d70, 0x20333b20, 0x20202020, 0x20202020, 0x20202020), 600);
        due("text of 600", x.text(0, NONE), 0);
        due("lamp of 600", x.library(0, 2), 3);
        // the highest byte first, bytes above 127 too
        x.feed(0x6c616d70, 0x20313b80, 0xffffffff, 0, 0);
        due("text with bytes above 127", x.text(0, NONE), NONE);
        due("their place", x.fault(1), 7);
        x.feed(0x6c616d70, 0x2031323b, 0x6c616d70, 0x20313120, 0x3b202020);
        due("text", x.text(0, NONE), 1);
        due("lamp", x.library(1, 2), 11);
    }

    // 3
    private static void end() {
        OneReader x = new OneReader();
        x.feed(0x6c616d70, 0x20313b6c, 0, 0, 0);
        due("end 21", x.end(21), NONE);
        due("end -1", x.end(-1), NONE);
        due("end LOW", x.end(LOW), NONE);
        due("end FAR", x.end(FAR), NONE);
        due("end 20", x.end(20), 20);
        due("end 7", x.end(7), 7);
        due("end 8", x.end(8), NONE);
        due("text", x.text(0, NONE), 0);
        due("lamp", x.library(0, 2), 1);
        due("end 1 of an empty one", x.end(1), NONE);
        due("end 0 of an empty one", x.end(0), 0);
    }

    // 4
    private static void text() {
        OneReader x = small();
        due("taken", x.end(1), NONE);
        due("third library", Telling.tell(x, 0, NONE, "lamp 1;"), -2);
        due("taken by as many as may be, too", x.end(1), NONE);
        due("no text is read", x.count(0), 2);
        due("fault of no text", x.fault(0), 0);
        due("place of no text", x.fault(1), NONE);
        due("second library", Telling.tell(x, 0, 1, "lamp 1;"), 1);
        due("in the place of one", x.library(1, 2), 1);
        due("all of it", x.library(1, 0), 0);
        due("the other one", x.library(0, 2), 5);
        due("at -2", Telling.tell(x, 0, -2, ""), -2);
        due("at 2", Telling.tell(x, 0, 2, ""), -2);
        due("year at 1", Telling.tell(x, 1, 1, ""), -2);
        due("at LOW", Telling.tell(x, 1, LOW, ""), -2);
        due("at FAR", Telling.tell(x, 1, FAR, ""), -2);
        due("sort 3", Telling.tell(x, 3, NONE, ""), -2);
        due("sort -1", Telling.tell(x, -1, NONE, ""), -2);
        due("sort FAR", Telling.tell(x, FAR, 0, ""), -2);
        due("fault", Telling.tell(x, 0, 0, "lamp 0;"), NONE);
        due("taken by a fault, too", x.end(1), NONE);
        due("fault changes nothing", x.library(0, 2), 5);
        due("a fault is forgotten", x.text(7, 0), -2);
        due("fault 0", x.fault(0), 0);
        due("fault place", x.fault(1), NONE);
        due("empty year", Telling.tell(x, 1, NONE, ""), 1);
        due("its deeds", x.deed(1, NONE, 0), 0);
        due("third year", Telling.tell(x, 1, NONE, ""), -2);
        due("empty log", Telling.tell(x, 2, NONE, " \n "), 1);
        due("third log", Telling.tell(x, 2, NONE, ""), -2);
        due("log again", Telling.tell(x, 2, 0, "not 5;"), 0);
        due("its facts", x.fact(0, NONE, 0), 1);
        OneReader y = of("\n\nlamp\n12\n;chapter9 5 ; chapter 01 00;likes 0 00;likes 0 3;lamp 2;hears1 0;person 1;person 9;hears 1 0;");
        due("later ones strike", y.library(0, 2), 2);
        due("likes", y.library(0, 40), 3);
        due("chapters", y.library(0, 0), 2);
        due("topic", y.library(0, 20), 5);
        due("hours", y.library(0, 11), 1);
        due("hears ahead of its person", y.library(0, 61), 1);
        refusedTexts();
    }

    /** The tape is taken by every text(), by one that reads none too. */
    private static void refusedTexts() {
        int[][] refused = {{0, 0}, {1, 0}, {2, 0}, {0, 2}, {0, -2}, {1, LOW}, {2, FAR}, {3, NONE}, {-1, NONE}, {FAR, 0}};
        for (int[] asked : refused) {
            OneReader x = new OneReader();
            String told = "text(" + asked[0] + ", " + asked[1] + ")";
            // a text with a FAULT, which is not seen as it is not read
            Telling.tape(x, "lamp 0;");
            due(told, x.text(asked[0], asked[1]), -2);
            due("fault of " + told, x.fault(0), 0);
            due("place of " + told, x.fault(1), NONE);
            due("tape behind " + told, x.feed(0x6c616d70, 0x20333b20, 0x20202020, 0x20202020, 0x20202020), 20);
            due("text behind " + told, x.text(0, NONE), 0);
            due("lamp behind " + told, x.library(0, 2), 3);
        }
    }

    private static void fault(int sort, String text, int fault, int place) {
        OneReader x = new OneReader();
        due("text '" + text + "'", Telling.tell(x, sort, NONE, text), fault == 0 ? 0 : NONE);
        due("fault of '" + text + "'", x.fault(0), fault);
        due("place of '" + text + "'", x.fault(1), place);
        due("count behind '" + text + "'", x.count(sort), fault == 0 ? 1 : 0);
    }

    private static void faultsOfSort1() {
        fault(0, "day;", 1, 0);
        fault(0, "  knows 1;", 1, 2);
        fault(1, "lamp 3;", 1, 0);
        fault(1, "not 3;", 1, 0);
        fault(2, "day;", 1, 0);
        fault(0, "chapters 1 1;", 1, 0);
        fault(0, "chapte 1 1;", 1, 0);
        fault(0, "lampchapter 1 1;", 1, 0);
        fault(0, "lampz 3;", 1, 0);
        fault(0, "lampa 3;", 1, 0);
        fault(0, "damp 3;", 1, 0);
        fault(0, "lame 3;", 1, 0);
        fault(0, "lamp`3;", 1, 4);
        fault(0, "lamp{3;", 1, 4);
        fault(0, "lamp /3;", 1, 5);
        fault(0, "lamp 3:", 1, 6);
        fault(0, "Lamp 3;", 1, 0);
        fault(0, "lAmp 3;", 1, 0);
        fault(0, "3;", 1, 0);
        fault(0, ";", 1, 0);
        fault(0, "lamp 3;;", 1, 7);
        fault(0, "lamp;", 1, 4);
        fault(0, "lamp 3", 1, 6);
        fault(0, "lamp 3  \n", 1, 9);
        fault(0, "lamp", 1, 4);
        fault(0, "lamp 3 3;", 1, 7);
        fault(0, "lamp 123;", 1, 5);
        fault(0, "lamp 1 234;", 1, 7);
        fault(0, "lamp 001;", 1, 5);
        fault(0, "lamp -1;", 1, 5);
        fault(0, "lamp\t1;", 1, 4);
        fault(0, "lamp\r1;", 1, 4);
        fault(0, "lamp 1;\u00e9", 1, 7);
        fault(0, "lamp 3x;", 1, 6);
        fault(0, "chapter 3;", 1, 9);
        fault(0, "chapter 3 x;", 1, 10);
        // it comes ahead of all others
        fault(0, "lamp 13;#", 1, 8);
        fault(0, times(9, "chapter 1 1;") + "lamp", 1, 112);
        fault(0, "leans 1 0;lamp", 1, 14);
        fault(1, "tell 0;", 1, 6);
        fault(1, "cold 1;", 1, 5);
        fault(1, "day 0;", 1, 4);
        fault(1, "read;", 1, 4);
        fault(1, "pie 1 1;", 1, 6);
        fault(2, "not;", 1, 3);
        fault(2, "knows 1 2;", 1, 8);
    }

    private static void faultsOfSorts2To4() {
        fault(0, "", 0, NONE);
        fault(0, "chapter 0 0;", 2, 8);
        fault(0, "chapter 10 0;", 2, 8);
        fault(0, "chapter 9 5;chapter 1 6;", 2, 22);
        fault(0, "chapter 1 0;chapter 1 0;leans 0 0;", 2, 32);
        fault(0, "leans 0 1;", 2, 8);
        fault(0, "leans 8 1;", 2, 6);
        fault(0, times(8, "chapter 1 0;") + "leans 7 6;leans 7 0;", 0, NONE);
        fault(0, "leans 7 7;", 2, 8);
        fault(0, "likes 6 0;", 2, 6);
        fault(0, "likes 5 9;likes 0 10;", 2, 18);
        fault(0, "likes 5 9;likes 0 0;", 0, NONE);
        fault(0, "lamp 12;lamp 1;", 0, NONE);
        fault(0, "lamp 13;", 2, 5);
        fault(0, "lamp 0;", 2, 5);
        fault(0, "person 0;", 2, 7);
        fault(0, "person 10;", 2, 7);
        fault(0, "person 1;person 9;hears 0 1;", 0, NONE);
        fault(0, "hears 0 0;", 2, 8);
        fault(0, "hears 0 6;", 2, 8);
        fault(0, "hears 6 0;", 2, 6);
        fault(0, "hears 6 6;", 2, 6);
        fault(0, times(8, "chapter 1 0;"), 0, NONE);
        fault(0, times(9, "chapter 1 0;"), 3, 96);
        fault(0, times(8, "chapter 1 0;") + "chapter 0 0;", 3, 96);
        fault(0, times(8, "chapter 1 0;") + "lamp 0;chapter 1 0;", 2, 101);
        fault(0, times(6, "person 1;"), 0, NONE);
        fault(0, times(7, "person 1;"), 3, 54);
        fault(0, "leans 1 0;lamp 0;", 2, 15);
        fault(0, "leans 1 0;" + times(7, "person 1;"), 3, 64);
        fault(0, "leans 1 0;", 4, 10);
        fault(0, "leans 1 0;chapter 1 1;  ", 4, 24);
        fault(0, "leans 1 0;chapter 1 1;chapter 1 1;", 0, NONE);
        fault(0, "hears 0 1;", 4, 10);
        fault(0, "hears 0 1;person 1;", 4, 19);
        fault(0, "hears 1 0;person 1;", 4, 19);
        fault(0, "hears 1 0;person 1;person 1;", 0, NONE);
        fault(1, "read 7;skip 7;pie 5;tell 7 5;cold;day;", 0, NONE);
        fault(1, "read 8;", 2, 5);
        fault(1, "skip 8;", 2, 5);
        fault(1, "pie 6;", 2, 4);
        fault(1, "tell 8 0;", 2, 5);
        fault(1, "tell 0 6;", 2, 7);
        fault(1, times(40, "day;"), 0, NONE);
        fault(1, times(41, "day;"), 3, 160);
        fault(1, times(40, "pie 0;") + "read 8;", 3, 240);
        fault(2, "knows 5;not 0;", 0, NONE);
        fault(2, "knows 6;", 2, 6);
        fault(2, "not 6;", 2, 4);
        fault(2, times(8, "not 0;"), 0, NONE);
        fault(2, times(9, "not 0;"), 3, 48);
    }

    // 5
    private static void fault() {
        OneReader x = new OneReader();
        Telling.tell(x, 0, NONE, "lamp 0;");
        due("fault 2", x.fault(2), NONE);
        due("fault -1", x.fault(-1), NONE);
        due("fault FAR", x.fault(FAR), NONE);
        due("fault 0", x.fault(0), 2);
        due("fault 0 again", x.fault(0), 2);
        due("fault 1", x.fault(1), 5);
        Telling.tell(x, 0, NONE, "lamp 1;");
        due("fault 0 of a good one", x.fault(0), 0);
        due("fault 1 of a good one", x.fault(1), NONE);
    }

    // 6
    private static void library() {
        OneReader x = small();
        int[][] answers = {{0, 4}, {1, 3}, {2, 5}, {10, 3}, {11, 2}, {12, 4}, {13, 1}, {20, 0}, {21, 1}, {22, 0}, {23, 2},
            {30, 0}, {31, 0}, {32, 1}, {33, 3}, {40, 7}, {41, 2}, {42, 1}, {43, 5}, {44, 5}, {45, 5}, {50, 2}, {51, 3}, {52, 9},
            {60, 0}, {61, 1}, {62, 2}, {3, NONE}, {9, NONE}, {14, NONE}, {19, NONE}, {24, NONE}, {34, NONE}, {46, NONE}, {49, NONE},
            {53, NONE}, {63, NONE}, {70, NONE}, {-1, NONE}, {-10, NONE}, {FAR, NONE}, {LOW, NONE}};
        for (int[] a : answers) {
            due("library 0 " + a[0], x.library(0, a[0]), a[1]);
        }
        due("library -1", x.library(-1, 0), NONE);
        due("library 2", x.library(2, 0), NONE);
        OneReader y = of("");
        due("lamp at first", y.library(0, 2), 6);
        due("no chapters", y.library(0, 0), 0);
        due("no chapter 0", y.library(0, 10), NONE);
        due("likes at first", y.library(0, 45), 5);
        due("library 1", y.library(1, 0), NONE);
    }

    // 7
    private static void deed() {
        OneReader x = withYear("", "read 0;skip 1;pie 2;tell 3 4;cold;day;");
        int[][] rows = {{0, 0, NONE}, {1, 1, NONE}, {2, 2, NONE}, {3, 3, 4}, {4, NONE, NONE}, {5, NONE, NONE}};
        for (int k = 0; k < 6; k++) {
            for (int what = 0; what < 3; what++) {
                due("deed 0 " + k + " " + what, x.deed(0, k, what), rows[k][what]);
            }
        }
        due("deeds", x.deed(0, NONE, 0), 6);
        due("deeds, what 1", x.deed(0, NONE, 1), -2);
        due("deed 6", x.deed(0, 6, 0), -2);
        due("deed -2", x.deed(0, -2, 0), -2);
        due("deed FAR", x.deed(0, FAR, 0), -2);
        due("deed 0, what 3", x.deed(0, 0, 3), -2);
        due("deed 0, what -1", x.deed(0, 0, -1), -2);
        due("year 1", x.deed(1, 0, 0), -2);
        due("year -1", x.deed(-1, NONE, 0), -2);
    }

    private static void endsAt(String library, String year, int want) {
        due("till of " + year + " in " + library, withYear(library, year).till(0, 0), want);
    }

    // 8, and each DEED of term 2
    private static void till() {
        OneReader x = small();
        due("till", x.till(0, 0), 12);
        due("till in the dark", x.till(1, 0), 0);
        due("till of no library", x.till(2, 0), NONE);
        due("till of no year", x.till(0, 1), NONE);
        due("till -1", x.till(-1, -1), NONE);
        endsAt("", "", 0);
        endsAt("", "pie 0;day;cold;", 3);
        endsAt("", "day;read 0;", 1);
        endsAt("", "day;skip 0;", 1);
        // read: MAY be read, HOURS, LIKED, no cold
        endsAt("chapter 6 0;chapter 1 0;", "read 0;read 1;", 1);
        endsAt("chapter 6 0;chapter 1 0;", "read 0;day;read 1;", 3);
        endsAt("chapter 6 0;chapter 1 0;lamp 5;", "read 1;read 0;", 1);
        endsAt("chapter 1 0;chapter 1 0;leans 1 0;", "read 1;", 0);
        endsAt("chapter 1 0;chapter 1 0;leans 1 0;", "read 0;read 1;read 1;", 2);
        endsAt("chapter 1 0;chapter 1 0;leans 1 0;", "skip 0;read 1;", 2);
        endsAt("chapter 1 0;chapter 1 0;likes 0 1;", "read 0;read 1;", 1);
        endsAt("chapter 1 0;chapter 1 0;likes 0 1;", "read 0;pie 0;read 1;", 3);
        endsAt("chapter 1 0;likes 0 0;", "read 0;", 0);
        endsAt("chapter 1 0;", "cold;read 0;", 1);
        endsAt("chapter 1 0;", "cold;day;read 0;", 3);
        // skip: whatever the HOURS, what is LIKED, and with a cold
        endsAt("chapter 9 0;likes 0 0;lamp 1;", "cold;skip 0;skip 0;", 2);
        endsAt("chapter 1 0;chapter 1 0;leans 1 0;", "skip 1;", 0);
        endsAt("chapter 1 0;", "read 0;skip 0;", 1);
        endsAt("chapter 1 0;", "skip 0;read 0;", 1);
        // cold
        endsAt("", "cold;cold;", 1);
        endsAt("", "cold;day;cold;", 3);
        // tell: a READ one, somebody who is there, no cold
        endsAt("chapter 1 0;person 1;", "tell 0 0;", 0);
        endsAt("chapter 1 0;person 1;", "skip 0;tell 0 0;", 1);
        endsAt("chapter 1 0;person 1;", "read 0;tell 0 0;tell 0 0;", 3);
        endsAt("chapter 1 0;person 1;", "read 0;cold;tell 0 0;", 2);
        endsAt("chapter 1 0;person 1;", "read 0;tell 0 1;", 1);
        endsAt("chapter 1 0;person 1;", "read 0;tell 1 0;", 1);
        endsAt("chapter 1 0;", times(40, "day;"), 40);
    }

    // 9
    private static void state() {
        OneReader x = small();
        // n, what, answer
        int[][] answers = {
            {0, 0, 0}, {0, 1, 0}, {0, 2, 0}, {0, 3, 5}, {0, 4, 0}, {0, 5, 3}, {0, 10, 7}, {0, 15, 5}, {0, 20, 0}, {0, 100, NONE},
            {1, 1, 1}, {1, 3, 2}, {1, 5, 6}, {1, 10, 6}, {2, 20, 1}, {2, 100, 0}, {3, 2, 2}, {3, 1, 1}, {3, 5, 12}, {4, 3, 1}, {4, 12, 0},
            {4, 1, 9}, {5, 12, 2}, {6, 0, 1}, {6, 3, 5}, {6, 100, 1}, {6, 108, 0}, {6, 116, NONE}, {6, 22, 0}, {7, 4, 1}, {7, 5, 4},
            {8, 4, 0}, {8, 0, 2}, {8, 100, NONE}, {8, 20, 0}, {8, 108, 1}, {8, 116, 0}, {9, 10, 5}, {9, 3, 1}, {10, 20, 4}, {10, 102, 0},
            {11, 21, 5}, {11, 108, 2}, {11, 110, 0}, {12, 0, 4}, {12, 1, 13}, {12, 2, 2}, {12, 3, 5}, {12, 4, 0}, {12, 5, 0}, {12, 10, 5},
            {12, 11, 2}, {12, 12, 2}, {12, 20, 0}, {12, 21, 4}, {12, 22, 5}, {12, 110, 1}, {12, 116, 2}, {12, 118, 0}, {12, 117, NONE},
            {13, 0, -2}, {-1, 0, -2}, {FAR, 0, -2}, {LOW, 0, -2}, {0, 6, -2}, {0, 9, -2}, {0, -1, -2}, {0, 16, -2}, {0, 19, -2}, {0, 23, -2},
            {0, 99, -2}, {0, 104, -2}, {0, 107, -2}, {0, 124, -2}, {0, 148, -2}, {0, FAR, -2}, {0, LOW, -2}};
        for (int[] a : answers) {
            due("state 0 0 " + a[0] + " " + a[1], x.state(0, 0, a[0], a[1]), a[2]);
        }
        due("state of library 2", x.state(2, 0, 0, 0), -2);
        due("state of year 1", x.state(0, 1, 0, 0), -2);
        due("state of -1", x.state(-1, -1, 0, 0), -2);
        OneReader y = withYear("chapter 1 0;person 3;likes 5 8;", "pie 5;pie 0;pie 0;pie 0;read 0;tell 0 0;day;day;tell 0 0;day;day;day;");
        due("9 at most", y.state(0, 0, 1, 15), 9);
        due("2 more", y.state(0, 0, 2, 10), 7);
        due("9 at most again", y.state(0, 0, 4, 10), 9);
        OneReader skips = withYear("chapter 1 0;chapter 1 0;chapter 1 0;", "skip 0;skip 2;");
        due("skipped ones", skips.state(0, 0, 2, 2), 5);
        due("known for 2 days", y.state(0, 0, 8, 100), 2);
        due("told once more", y.state(0, 0, 9, 100), 0);
        due("known still", y.state(0, 0, 11, 100), 2);
        due("forgotten", y.state(0, 0, 12, 100), NONE);
        // who forgets it does not hear it on that day, but on the next
        OneReader z = withYear("chapter 1 0;person 1;person 9;hears 0 1;hears 1 0;", "read 0;tell 0 0;day;day;day;");
        due("day 1", z.state(0, 0, 3, 20), 0);
        due("day 1, the other", z.state(0, 0, 3, 21), 1);
        due("day 2", z.state(0, 0, 4, 100), 0);
        due("day 3", z.state(0, 0, 5, 20), 0);
        due("day 3, the other", z.state(0, 0, 5, 108), 2);
    }

    // 10
    private static void himself() {
        OneReader x = small();
        due("himself 0", x.himself(0, 0, NONE), 0);
        due("himself 0, the first", x.himself(0, 0, 0), NONE);
        due("himself 1", x.himself(0, 1, NONE), 2);
        due("himself 2", x.himself(0, 2, NONE), 4);
        due("himself 20", x.himself(0, 20, NONE), 4);
        int[] row = {0, 1, 2, 3, NONE};
        for (int k = 0; k < 5; k++) {
            due("himself 2, " + k, x.himself(0, 2, k), row[k]);
        }
        due("himself 1, 2", x.himself(0, 1, 2), NONE);
        due("himself, -2", x.himself(0, 1, -2), NONE);
        due("himself, FAR", x.himself(0, 1, FAR), NONE);
        due("himself 21", x.himself(0, 21, NONE), NONE);
        due("himself -1", x.himself(0, -1, NONE), NONE);
        due("himself in the dark", x.himself(1, 20, NONE), 0);
        due("himself in none", x.himself(2, 0, NONE), NONE);
        // LIKED most, then fewest HOURS, then the least; what is LIKED falls as he reads
        OneReader y = of("chapter 3 0;chapter 2 1;chapter 2 1;chapter 1 2;likes 0 4;likes 1 5;likes 2 4;lamp 12;");
        int[] wish = {1, 3, 2, 0};
        for (int k = 0; k < 4; k++) {
            due("himself by wish " + k, y.himself(0, 1, k), wish[k]);
        }
        // a short one comes in when the one he likes better is too long for what is left
        OneReader z = of("chapter 4 0;chapter 4 0;chapter 2 1;likes 0 9;likes 1 1;lamp 6;");
        due("first", z.himself(0, 1, 0), 0);
        due("then the short one", z.himself(0, 1, 1), 2);
        due("on the next day", z.himself(0, 2, 2), 1);
    }

    // 11
    private static void bait() {
        OneReader x = small();
        due("bait 3 in 2", x.bait(0, 3, 2, NONE), 0);
        due("bait 3 in 2, the first", x.bait(0, 3, 2, 0), NONE);
        due("bait 3 in 1", x.bait(0, 3, 1, NONE), NONE);
        due("bait 3 in 1, the first", x.bait(0, 3, 1, 0), NONE);
        due("bait 0 in 0", x.bait(0, 0, 0, NONE), NONE);
        due("bait 0 in 1", x.bait(0, 0, 1, NONE), 0);
        due("bait in 20", x.bait(0, 3, 20, NONE), 0);
        due("bait in 21", x.bait(0, 3, 21, NONE), NONE);
        due("bait in -1", x.bait(0, 3, -1, NONE), NONE);
        due("bait 4", x.bait(0, 4, 20, NONE), NONE);
        due("bait -1", x.bait(0, -1, 20, NONE), NONE);
        due("bait of library 2", x.bait(2, 0, 20, NONE), NONE);
        OneReader y = of("chapter 5 0;chapter 5 1;likes 0 8;likes 1 1;lamp 5;");
        due("four pies", y.bait(0, 1, 1, NONE), 4);
        for (int k = 0; k < 4; k++) {
            due("pie " + k, y.bait(0, 1, 1, k), 1);
        }
        due("pie 4", y.bait(0, 1, 1, 4), NONE);
        due("pie -2", y.bait(0, 1, 1, -2), NONE);
        due("in 2 none", y.bait(0, 1, 2, NONE), 0);
        due("not by 4", of("chapter 5 0;chapter 5 1;likes 0 9;likes 1 1;lamp 5;").bait(0, 1, 1, NONE), NONE);
        OneReader z = of("chapter 1 5;chapter 1 2;chapter 1 3;leans 2 1;leans 2 0;likes 5 0;likes 2 0;likes 3 0;");
        due("three pies", z.bait(0, 2, 1, NONE), 3);
        int[] row = {2, 3, 5, NONE};
        for (int k = 0; k < 4; k++) {
            due("pie " + k + " of three", z.bait(0, 2, 1, k), row[k]);
        }
        due("one pie", z.bait(0, 0, 1, NONE), 1);
        due("of topic 5", z.bait(0, 0, 1, 0), 5);
        // a pie of the wrong TOPIC first would do as well: the first row by numbers
        OneReader w = of("chapter 1 0;chapter 1 1;chapter 1 2;leans 2 1;likes 0 0;likes 1 1;likes 2 0;");
        due("first row", w.bait(0, 2, 1, 0), 2);
        String dull = "likes 0 0;likes 1 0;likes 2 0;likes 3 0;likes 4 0;";
        String four = "chapter 1 3;chapter 1 2;chapter 1 1;chapter 1 0;leans 3 2;leans 3 1;leans 3 0;";
        due("four topics", of(four + dull).bait(0, 3, 1, NONE), 4);
        for (int k = 0; k < 4; k++) {
            due("four topics, pie " + k, of(four + dull).bait(0, 3, 1, k), k);
        }
        String five = four + "chapter 1 4;leans 4 3;";
        due("five topics are one too many", of(five + dull).bait(0, 4, 1, NONE), NONE);
    }

    // 12
    private static void order() {
        OneReader x = small();
        int[][] answers = {{0, 0, 0}, {1, 0, 0}, {2, 1, 2}, {3, 1, 1}, {4, 1, 1}, {5, 2, 3}, {6, 3, 11}, {8, 3, 11}, {9, 3, 7}, {10, 4, 15}, {72, 4, 15}};
        for (int[] a : answers) {
            due("order " + a[0], x.order(0, a[0], false), a[1]);
            due("order which " + a[0], x.order(0, a[0], true), a[2]);
        }
        due("order -1", x.order(0, -1, false), NONE);
        due("order 73", x.order(0, 73, true), NONE);
        due("order of library 2", x.order(2, 10, true), NONE);
        due("order of none", of("").order(0, 72, false), 0);
        due("order of the longest", of(times(8, "chapter 9 0;")).order(0, 72, true), 255);
        due("order of one less", of(times(8, "chapter 9 0;")).order(0, 71, true), 127);
    }

    // 13
    private static void news() {
        OneReader x = small();
        int[][] answers = {{0, 0, 1}, {0, 1, 3}, {0, 2, 7}, {0, 9, 7}, {1, 0, 2}, {1, 1, 6}, {1, 9, 6}, {2, 0, 4}, {2, 9, 4},
            {0, 10, NONE}, {0, -1, NONE}, {3, 0, NONE}, {-1, 0, NONE}};
        for (int[] a : answers) {
            due("news " + a[0] + " " + a[1], x.news(0, a[0], a[1]), a[2]);
        }
        due("news of library 2", x.news(2, 0, 0), NONE);
        // nobody forgets
        due("news in the dark", x.news(1, 0, 1), 3);
    }

    // 14
    private static void tellers() {
        OneReader x = small();
        int[][] answers = {{0, 3, 7}, {1, 2, 3}, {2, 1, 1}, {9, 1, 1}, {10, NONE, NONE}, {-1, NONE, NONE}};
        for (int[] a : answers) {
            due("tellers " + a[0], x.tellers(0, a[0], false), a[1]);
            due("tellers who " + a[0], x.tellers(0, a[0], true), a[2]);
        }
        due("tellers of library 2", x.tellers(2, 0, true), NONE);
        due("tellers of nobody", of("").tellers(0, 0, false), 0);
        due("tellers of nobody, who", of("").tellers(0, 9, true), 0);
        due("tellers of the deaf", of(times(6, "person 1;")).tellers(0, 9, true), 63);
        due("of several the least", of("person 1;person 1;hears 0 1;hears 1 0;").tellers(0, 1, true), 1);
    }

    // 15
    private static void game() {
        OneReader x = small();
        int[][] answers = {{0, 0, NONE}, {1, 0, NONE}, {2, 1, 1}, {3, 1, 0}, {4, 1, 0}, {5, 0, NONE}, {6, 1, 0}, {73, -2, -2}, {-1, -2, -2}};
        for (int[] a : answers) {
            due("game " + a[0], x.game(0, a[0], false), a[1]);
            due("game first " + a[0], x.game(0, a[0], true), a[2]);
        }
        due("game 72", x.game(0, 72, false), 0);
        due("game of library 2", x.game(2, 3, true), -2);
        due("game of none", of("").game(0, 72, false), 0);
        due("game of none, first", of("").game(0, 72, true), NONE);
        due("game of 7", of(times(7, "chapter 9 0;")).game(0, 72, true), 0);
        due("game of 8", of(times(8, "chapter 9 0;")).game(0, 72, false), 0);
        due("game of 8, 7 in the HOURS", of(times(8, "chapter 9 0;")).game(0, 71, false), 1);
        due("by the last alone", of("chapter 1 0;chapter 1 0;chapter 2 0;").game(0, 2, true), 2);
    }

    // 16
    private static void colds() {
        OneReader x = small();
        long[][] answers = {{15, 2, 3, 49, 100}, {15, 3, 5, 1, 2}, {15, 1, 0, 0, 1}, {15, 2, 0, 1, 1}, {15, 9, 10, 0, 1}, {0, 1, 10, 1, 1},
            {1, 1, 3, 7, 10}, {3, 1, 4, 3, 5}, {7, 1, 4, 0, 1}, {1, 9, 9, 612579511, 1000000000}, {15, 4, 2, 608, 625}, {0, 9, 0, 1, 1}};
        for (long[] a : answers) {
            String call = "colds " + a[0] + " " + a[1] + " " + a[2];
            due(call, x.colds(0, (int) a[0], (int) a[1], (int) a[2], false), a[3]);
            due(call + " under", x.colds(0, (int) a[0], (int) a[1], (int) a[2], true), a[4]);
        }
        int[][] none = {{16, 1, 0}, {-1, 1, 0}, {LOW, 1, 0}, {FAR, 1, 0}, {15, 0, 0}, {15, 10, 0}, {15, 1, -1}, {15, 1, 11}};
        for (int[] a : none) {
            due("colds " + a[0] + " " + a[1] + " " + a[2], x.colds(0, a[0], a[1], a[2], true), NONE);
        }
        due("colds of library 2", x.colds(2, 0, 1, 0, false), NONE);
        due("colds of the dark", x.colds(1, 1, 3, 0, false), 1);
        due("colds of the dark in 2", x.colds(1, 1, 2, 0, false), 0);
        due("colds of none", of("").colds(0, 0, 1, 5, true), 1);
        due("colds of none, 1", of("").colds(0, 1, 1, 5, true), NONE);
    }

    // 17
    private static void fact() {
        OneReader x = small();
        int[][] answers = {{NONE, 0, 2}, {0, 0, 0}, {0, 1, 1}, {1, 0, 1}, {1, 1, 2}, {NONE, 1, -2}, {2, 0, -2}, {-2, 0, -2}, {0, 2, -2}, {0, -1, -2}, {FAR, 0, -2}};
        for (int[] a : answers) {
            due("fact " + a[0] + " " + a[1], x.fact(0, a[0], a[1]), a[2]);
        }
        due("fact of log 1", x.fact(1, NONE, 0), -2);
        due("fact of log -1", x.fact(-1, 0, 0), -2);
    }

    // 18
    private static void fits() {
        OneReader x = small();
        int[][] answers = {{0, 2}, {1, NONE}, {2, 0}, {10, 1}, {11, 10}, {12, -2}, {3, -2}, {9, -2}, {-1, -2}, {FAR, -2}, {LOW, -2}};
        for (int[] a : answers) {
            due("fits " + a[0], x.fits(0, 0, a[0]), a[1]);
        }
        due("a person is not there", x.fits(1, 0, 0), -2);
        due("fits of library 2", x.fits(2, 0, 0), -2);
        due("fits of log 1", x.fits(0, 1, 0), -2);
        OneReader y = withLog(SMALL, "knows 0;");
        due("all of one", y.fits(0, 0, 0), 10);
        due("sure", y.fits(0, 0, 1), 0);
        due("ask", y.fits(0, 0, 2), 2);
        due("the last", y.fits(0, 0, 19), 9);
        due("behind the last", y.fits(0, 0, 20), -2);
        OneReader z = withLog(SMALL, "knows 0;not 0;");
        due("nothing", z.fits(0, 0, 0), 0);
        due("sure of nothing", z.fits(0, 0, 1), NONE);
        due("ask of nothing", z.fits(0, 0, 2), NONE);
        due("first of nothing", z.fits(0, 0, 10), -2);
        OneReader w = withLog(times(6, "person 1;"), "");
        due("everything", w.fits(0, 0, 0), 60);
        due("the last of all", w.fits(0, 0, 69), 59);
        OneReader one = withLog(SMALL, "knows 0;knows 1;not 2;");
        due("but one", one.fits(0, 0, 0), 1);
        due("but one, ask", one.fits(0, 0, 2), 0);
        due("but one, who", one.fits(0, 0, 1), 0);
        due("but one, it", one.fits(0, 0, 10), 1);
        due("ask, all alike", w.fits(0, 0, 2), 0);
        OneReader v = withLog("", "");
        due("nobody", v.fits(0, 0, 0), 0);
        due("nobody, ask", v.fits(0, 0, 2), NONE);
        due("nobody, but one of the log", withLog("", "not 0;").fits(0, 0, 0), -2);
    }

    // 19
    private static void drawn() {
        OneReader x = of("chapter 1 0;chapter 2 1;chapter 3 2;person 5;person 6;hears 1 0;");
        // from 0 these are drawn: read 2; tell 0 0 (not READ); day; tell 0 0; skip 2; tell 0 0; day; pie 4; read 1; tell 2 1; ...
        int[][] answers = {{1, 1, 4}, {1, 3, 3}, {1, 12, 4}, {2, 20, 0}, {3, 0, 1}, {3, 3, 6}, {8, 14, 7}, {9, 1, 6}, {10, 21, 4}, {10, 110, 0},
            {14, 4, 0}, {15, 4, 1}, {17, 2, 1}, {18, 110, 1}, {25, 14, 9}, {40, 109, 5}, {46, 21, 0}, {46, 101, 2}, {48, 109, 0}, {48, 102, 1},
            {52, 101, 0}, {60, 0, 9}, {60, 1, 6}, {60, 2, 1}, {60, 4, 1}, {60, 5, 0}, {60, 11, 6}, {60, 12, 8}};
        for (int[] a : answers) {
            due("drawn 0 " + a[0] + " " + a[1], x.drawn(0, 0, a[0], a[1]), a[2]);
        }
        due("drawn 61", x.drawn(0, 0, 61, 0), -2);
        due("drawn -1", x.drawn(0, 0, -1, 0), -2);
        due("drawn what 6", x.drawn(0, 0, 5, 6), -2);
        due("drawn what -1", x.drawn(0, 0, 5, -1), -2);
        due("drawn of library 1", x.drawn(1, 0, 5, 0), -2);
        due("drawn 0 times", x.drawn(0, 99, 0, 3), 6);
        // without CHAPTERS and PEOPLE a DEED that needs them draws no more
        OneReader y = of("");
        due("drawn of none, the day", y.drawn(0, 0, 60, 0), 9);
        due("drawn of none, a topic", y.drawn(0, 0, 60, 10), 9);
        due("drawn of none, another", y.drawn(0, 0, 60, 12), 7);
        due("drawn of none, read", y.drawn(0, 0, 60, 1), 0);
        OneReader z = of("chapter 1 0;");
        due("drawn without people, the day", z.drawn(0, 7, 60, 0), 2);
        due("drawn without people, skipped", z.drawn(0, 7, 60, 2), 1);
        due("drawn without people, a topic", z.drawn(0, 7, 60, 15), 9);
    }

    // 20
    private static void shelf() {
        OneReader x = small();
        int[][] answers = {{0, 2}, {1, 0}, {2, 0}, {3, 2}, {4, 2}, {5, 5}, {6, 0}, {7, 3}, {10, 0}, {11, 0}, {12, 1}, {13, 3},
            {14, -2}, {8, -2}, {9, -2}, {-1, -2}, {FAR, -2}, {LOW, -2}};
        for (int[] a : answers) {
            due("shelf " + a[0], x.shelf(0, a[0]), a[1]);
        }
        due("finish in the dark", x.shelf(1, 0), NONE);
        due("dull in the dark", x.shelf(1, 1), 3);
        due("shelf in the dark", x.shelf(1, 4), NONE);
        due("keystone that is under none", x.shelf(1, 2), 0);
        due("under none", x.shelf(1, 3), 0);
        due("halves in the dark", x.shelf(1, 6), 8);
        due("the one in the dark", x.shelf(1, 7), 1);
        due("shelf of library 2", x.shelf(2, 0), -2);
        OneReader y = of("");
        int[] none = {0, 0, NONE, NONE, 0, 1, 0, 0};
        for (int what = 0; what < 8; what++) {
            due("shelf of none " + what, y.shelf(0, what), none[what]);
        }
        due("shelf of none 10", y.shelf(0, 10), -2);
        OneReader z = of(times(8, "chapter 1 0;") + "likes 0 9;lamp 1;");
        int[] eight = {8, 0, 0, 0, 8, 40320, 0, 15};
        for (int what = 0; what < 8; what++) {
            due("shelf of eight " + what, z.shelf(0, what), eight[what]);
        }
        OneReader w = of("chapter 5 0;chapter 5 1;chapter 1 1;leans 1 0;leans 2 1;likes 0 0;");
        due("under, and so on", w.shelf(0, 12), 3);
        due("keystone, and so on", w.shelf(0, 3), 2);
        due("dull for what they lean on", w.shelf(0, 1), 7);
        due("rows of a ladder", w.shelf(0, 5), 1);
        due("shelf with what is not liked", w.shelf(0, 4), 2);
        due("of several the least", of("chapter 1 0;chapter 1 0;chapter 1 0;chapter 1 0;leans 2 1;leans 3 0;").shelf(0, 2), 0);
        due("not the first", of("chapter 1 0;chapter 1 0;chapter 1 0;chapter 1 0;leans 2 1;leans 3 1;").shelf(0, 2), 1);
        // two that would fit in one day lean on one that does not
        due("shelf by what leans", of("chapter 2 0;chapter 6 0;chapter 4 0;leans 1 0;leans 2 1;").shelf(0, 4), 3);
        due("shelf without", of("chapter 2 0;chapter 6 0;chapter 4 0;").shelf(0, 4), 2);
        due("finish never", of("chapter 3 0;chapter 3 1;chapter 2 0;chapter 4 1;likes 0 9;likes 1 1;").shelf(0, 0), NONE);
    }

    // 21
    private static void lessons() {
        OneReader x = small();
        int[][] rows = {{10, 0}, {5, 0, 2}, {5, 0, 0, 2}, {4, 0, 1, 2, 3}};
        for (int n = 1; n <= 4; n++) {
            for (int k = NONE; k < n; k++) {
                due("lessons " + n + " " + k, x.lessons(0, n, k), rows[n - 1][k + 1]);
            }
            due("lessons " + n + ", no such part", x.lessons(0, n, n), NONE);
            due("lessons " + n + ", part -2", x.lessons(0, n, -2), NONE);
        }
        due("lessons 0", x.lessons(0, 0, NONE), NONE);
        due("lessons 5", x.lessons(0, 5, NONE), NONE);
        due("lessons FAR", x.lessons(0, 1, FAR), NONE);
        due("lessons of library 2", x.lessons(2, 1, NONE), NONE);
        OneReader y = of("");
        due("lessons of none", y.lessons(0, 4, NONE), 0);
        due("lessons of none, 0", y.lessons(0, 4, 0), 0);
        due("lessons of none, 3", y.lessons(0, 4, 3), 0);
        OneReader z = of("chapter 5 0;");
        for (int k = 0; k < 4; k++) {
            due("one chapter comes as late as can be", z.lessons(0, 4, k), 0);
        }
        OneReader w = of("chapter 9 0;chapter 1 0;");
        due("two parts", w.lessons(0, 2, NONE), 9);
        due("the second begins with 1", w.lessons(0, 2, 1), 1);
        due("three parts", w.lessons(0, 3, 1), 0);
        due("three parts, the last", w.lessons(0, 3, 2), 1);
    }

    // 22
    private static void feast() {
        OneReader x = of("chapter 1 3;chapter 1 4;likes 3 0;likes 4 0;");
        // m, k, answer
        int[][] answers = {{0, NONE, 0}, {0, 0, NONE}, {1, NONE, 1}, {1, 0, 3}, {1, 1, NONE}, {2, NONE, 2}, {2, 0, 3}, {2, 1, 4}, {2, 2, NONE},
            {3, NONE, 2}, {3, 0, 0}, {3, 1, 3}, {3, 2, 4}, {3, 3, NONE}, {3, -2, NONE}, {4, NONE, NONE}, {-1, NONE, NONE}};
        for (int[] a : answers) {
            due("feast 1 " + a[0] + " " + a[1], x.feast(0, 1, a[0], a[1]), a[2]);
        }
        due("feast in 0", x.feast(0, 0, 3, NONE), 0);
        due("feast in 0, the first row", x.feast(0, 0, 3, 2), 0);
        due("feast in 20", x.feast(0, 20, 2, NONE), 2);
        due("feast in 21", x.feast(0, 21, 2, NONE), NONE);
        due("feast in -1", x.feast(0, -1, 2, NONE), NONE);
        due("feast of library 1", x.feast(1, 1, 1, NONE), NONE);
        due("feast of none", of("").feast(0, 1, 1, NONE), 0);
        due("feast of none, the pie", of("").feast(0, 1, 1, 0), 0);
        // a pie must be eaten, though it does harm: the other TOPICS do none
        OneReader y = of("chapter 5 0;chapter 2 1;chapter 2 1;likes 0 4;likes 1 5;lamp 5;");
        due("feast by another topic", y.feast(0, 1, 1, 0), 1);
        due("feast, how many", y.feast(0, 1, 1, NONE), 2);
    }

    // 23
    private static void sweet() {
        OneReader x = of("chapter 5 0;chapter 2 1;chapter 2 1;chapter 1 2;likes 0 4;likes 1 5;likes 2 0;lamp 5;");
        due("sweet 0 does harm", x.sweet(0, 0, 1), -1);
        due("sweet 1", x.sweet(0, 1, 1), 0);
        due("sweet 2 does good", x.sweet(0, 2, 1), 1);
        due("sweet 2 in 0", x.sweet(0, 2, 0), 0);
        due("sweet 2 in 20", x.sweet(0, 2, 20), 1);
        due("sweet 5", x.sweet(0, 5, 1), 0);
        due("sweet 6", x.sweet(0, 6, 1), -99);
        due("sweet -1", x.sweet(0, -1, 1), -99);
        due("sweet in 21", x.sweet(0, 0, 21), -99);
        due("sweet in -1", x.sweet(0, 0, -1), -99);
        due("sweet of library 1", x.sweet(1, 0, 1), -99);
    }

    // 24
    private static void ladder() {
        OneReader x = small();
        int[] row = {2, 0, 2, NONE};
        for (int k = NONE; k < 3; k++) {
            due("ladder " + k, x.ladder(0, k), row[k + 1]);
        }
        due("ladder -2", x.ladder(0, -2), NONE);
        due("ladder of library 2", x.ladder(2, NONE), NONE);
        due("ladder of none", of("").ladder(0, NONE), 0);
        due("ladder of none, 0", of("").ladder(0, 0), NONE);
        due("ladder of one", of("chapter 1 0;chapter 1 0;").ladder(0, NONE), 1);
        due("ladder of one, 0", of("chapter 1 0;chapter 1 0;").ladder(0, 0), 0);
        OneReader y = of(times(6, "chapter 1 0;") + "leans 5 0;leans 2 1;leans 4 2;leans 3 1;leans 5 3;leans 5 4;");
        int[] longest = {4, 1, 2, 4, 5};
        for (int k = NONE; k < 4; k++) {
            due("longest ladder " + k, y.ladder(0, k), longest[k + 1]);
        }
    }

    // 25
    private static void dim() {
        OneReader x = small();
        int[][] answers = {{1, 10}, {2, 5}, {3, 4}, {4, 4}, {20, 4}, {0, NONE}, {21, NONE}, {-1, NONE}};
        for (int[] a : answers) {
            due("dim " + a[0], x.dim(0, a[0]), a[1]);
        }
        due("dim whatever the lamp is", x.dim(1, 2), 9);
        due("dim of library 2", x.dim(2, 1), NONE);
        due("dim by 12", of("chapter 9 0;chapter 3 0;").dim(0, 1), 12);
        due("dim by none", of("chapter 9 0;chapter 4 0;").dim(0, 1), NONE);
        due("dim of none", of("").dim(0, 1), 1);
    }

    // 26
    private static void ban() {
        ban("", NONE, NONE);
        ban(SMALL, 0, 1);
        ban(DARK, 0, 1);
        ban("chapter 1 1;chapter 9 0;lamp 3;", 1, 1);
        ban("chapter 9 0;chapter 9 0;lamp 3;", 0, NONE);
        ban("chapter 9 0;lamp 3;", 0, 0);
        ban("chapter 3 0;chapter 3 0;chapter 3 0;lamp 3;", 0, 2);
        // with a CHAPTER goes all that leans on it, and so on
        ban("chapter 3 0;chapter 3 0;chapter 3 0;chapter 3 0;leans 2 1;leans 3 2;lamp 3;", 1, 1);
        due("ban of library 1", of("").ban(1, false), -2);
        due("ban of library -1", of("").ban(-1, true), -2);
    }

    private static void ban(String library, int chapter, int days) {
        OneReader x = of(library);
        due("ban of " + library, x.ban(0, false), chapter);
        due("ban's days of " + library, x.ban(0, true), days);
    }

    // 27
    private static void share() {
        OneReader x = small();
        int[][] answers = {{0, 7, 10}, {1, 1, 5}, {2, 1, 10}, {3, 0, 1}, {5, 0, 1}, {6, NONE, NONE}, {-1, NONE, NONE}};
        for (int[] a : answers) {
            due("share " + a[0], x.share(0, a[0], false), a[1]);
            due("share under " + a[0], x.share(0, a[0], true), a[2]);
        }
        due("share of library 2", x.share(2, 0, false), NONE);
        due("share of none", of("").share(0, 0, true), NONE);
        due("share of all", of("chapter 9 5;").share(0, 5, true), 1);
    }

    // 28
    private static void rumour() {
        OneReader x = small();
        int[][] answers = {{0, 0, 1}, {0, 1, 3}, {0, 2, 6}, {0, 3, 6}, {0, 4, 4}, {0, 10, 4}, {0, 11, 0}, {0, 20, 0}, {0, NONE, 11},
            {2, 8, 4}, {2, 9, 0}, {2, NONE, 9}, {0, 21, -2}, {0, -2, -2}, {3, 0, -2}, {-1, NONE, -2}, {3, NONE, -2}};
        for (int[] a : answers) {
            due("rumour " + a[0] + " " + a[1], x.rumour(0, a[0], a[1]), a[2]);
        }
        due("told to and fro", x.rumour(1, 0, 1), 2);
        due("told to and fro, 20", x.rumour(1, 0, 20), 1);
        due("it never dies", x.rumour(1, 0, NONE), NONE);
        due("rumour of library 2", x.rumour(2, 0, 0), -2);
        due("it dies by one", of("person 1;").rumour(0, 0, NONE), 1);
        String late = "person 4;person 2;person 3;person 4;person 4;person 7;hears 0 1;hears 1 0;hears 1 3;hears 1 5;hears 2 1;hears 2 3;hears 3 1;hears 3 4;hears 3 5;hears 4 0;hears 4 1;hears 4 5;hears 5 1;";
        due("it dies by 99", of(late).rumour(0, 5, NONE), 99);
        String later = "person 4;person 2;person 8;person 4;person 4;person 7;hears 0 1;hears 1 0;hears 1 3;hears 1 5;hears 2 1;hears 2 3;hears 3 1;hears 3 4;hears 3 5;hears 4 1;hears 4 5;hears 5 1;hears 5 3;";
        due("it would die by 100", of(later).rumour(0, 5, NONE), NONE);
    }

    // 29
    private static void between() {
        OneReader x = small();
        int[][] answers = {{0, 0, 0}, {0, 1, 1}, {0, 2, 2}, {1, 0, NONE}, {2, 0, NONE}, {2, 2, 0}, {0, 3, NONE}, {3, 0, NONE}, {3, 3, NONE}, {-1, 0, NONE}, {0, -1, NONE}};
        for (int[] a : answers) {
            due("between " + a[0] + " " + a[1], x.between(0, a[0], a[1]), a[2]);
        }
        due("between of library 2", x.between(2, 0, 0), NONE);
        due("between with nobody, the one", x.between(0, 0, FAR), NONE);
        due("between with nobody, the other", x.between(0, LOW, 0), NONE);
        OneReader y = of(times(6, "person 1;") + "hears 1 0;hears 2 1;hears 3 2;hears 4 3;hears 5 4;");
        due("the longest way", y.between(0, 0, 5), 5);
    }

    // 30
    private static void centre() {
        OneReader x = small();
        due("centre", x.centre(0, false), 0);
        due("centre's days", x.centre(0, true), 2);
        due("centre of two", x.centre(1, false), 0);
        due("centre's days of two", x.centre(1, true), 1);
        due("centre of library 2", x.centre(2, false), NONE);
        due("centre of nobody", of("").centre(0, true), NONE);
        due("centre of one", of("person 1;").centre(0, true), 0);
        due("from nobody", of("person 1;person 1;").centre(0, false), NONE);
        due("from nobody, days", of("person 1;person 1;").centre(0, true), NONE);
        OneReader y = of("person 1;person 1;person 1;hears 1 0;hears 2 1;hears 0 1;");
        due("the one amid", y.centre(0, false), 1);
        due("the one amid, days", y.centre(0, true), 1);
    }

    // 31
    private static void loss() {
        OneReader x = small();
        int[][] answers = {{0, 1, 0}, {1, 2, 0}, {2, 0, 0}, {3, NONE, NONE}, {-1, NONE, NONE}};
        for (int[] a : answers) {
            due("loss " + a[0], x.loss(0, a[0], false), a[1]);
            due("loss many " + a[0], x.loss(0, a[0], true), a[2]);
        }
        due("loss of library 2", x.loss(2, 0, false), NONE);
        due("no other one", of("person 1;").loss(0, 0, false), NONE);
        due("no other one, many", of("person 1;").loss(0, 0, true), NONE);
        OneReader y = of("person 1;person 1;person 1;person 1;hears 1 0;hears 2 0;hears 3 2;");
        due("loss of the one between", y.loss(0, 0, false), 2);
        due("loss of the one between, many", y.loss(0, 0, true), 1);
    }

    // 32
    private static void waits() {
        OneReader x = small();
        int[][] answers = {{15, 5, 4, 1}, {15, 3, 20, 7}, {15, 0, 2, 1}, {15, 9, 20, 1}, {0, 9, 0, 1}, {1, 4, 5, 3}, {3, 4, 5, 3}, {7, 4, 10, 3},
            {16, 0, NONE, NONE}, {-1, 0, NONE, NONE}, {LOW, 0, NONE, NONE}, {15, 10, NONE, NONE}, {15, -1, NONE, NONE}};
        for (int[] a : answers) {
            due("waits " + a[0] + " " + a[1], x.waits(0, a[0], a[1], false), a[2]);
            due("waits under " + a[0] + " " + a[1], x.waits(0, a[0], a[1], true), a[3]);
        }
        due("waits of library 2", x.waits(2, 0, 0, false), NONE);
        due("the longest", of(times(8, "chapter 9 0;") + "lamp 1;").waits(0, 255, 9, false), 720);
    }

    // 33
    private static void after() {
        OneReader x = small();
        int[] answers = {1, 3, 1, 0, 4, -2};
        for (int what = 0; what < 6; what++) {
            due("after " + what, x.after(0, 0, what), answers[what]);
        }
        due("after -1", x.after(0, 0, -1), -2);
        due("after in library 2", x.after(2, 0, 0), -2);
        due("after of year 1", x.after(0, 1, 0), -2);
        // nothing can be in the dark, where a TOPIC is LIKED 0 from the first on
        int[] dark = {0, 0, NONE, NONE, 2};
        for (int what = 0; what < 5; what++) {
            due("after in the dark " + what, x.after(1, 0, what), dark[what]);
        }
        OneReader y = withYear("chapter 1 0;person 2;person 1;person 5;hears 0 2;", "pie 5;pie 5;skip 0;pie 1;read 0;pie 1;");
        int[] stopped = {3, 0, NONE, NONE, 0};
        for (int what = 0; what < 5; what++) {
            due("after what stopped " + what, y.after(0, 0, what), stopped[what]);
        }
        OneReader z = withYear("chapter 1 0;person 5;person 5;person 1;hears 1 2;hears 0 2;", "day;read 0;tell 0 2;day;day;");
        due("gossip is the first", z.after(0, 0, 2), 2);
        due("forgot one", z.after(0, 0, 1), 1);
        due("first", z.after(0, 0, 3), 1);
        OneReader w = withYear("chapter 1 0;chapter 1 0;likes 0 2;person 5;person 5;person 9;person 9;"
                + "hears 1 2;hears 0 2;hears 1 3;hears 0 3;", "read 0;read 1;tell 0 3;tell 1 2;day;");
        due("gossip of several the least", w.after(0, 0, 2), 0);
        due("bored at last", w.after(0, 0, 4), 1);
        OneReader v = withYear("chapter 1 0;chapter 1 3;likes 0 1;likes 3 1;likes 5 0;", "read 1;read 0;pie 0;pie 3;pie 5;");
        due("bored by several", v.after(0, 0, 4), 41);
    }

    // 34
    private static void odds() {
        OneReader x = small();
        int[][] answers = {{0, 1, 2}, {1, 1, 1}, {2, 0, 1}, {3, NONE, NONE}, {-1, NONE, NONE}};
        for (int[] a : answers) {
            due("odds " + a[0], x.odds(0, 0, a[0], false), a[1]);
            due("odds under " + a[0], x.odds(0, 0, a[0], true), a[2]);
        }
        due("odds as -2 of fits", x.odds(1, 0, 0, false), NONE);
        due("odds in library 2", x.odds(2, 0, 0, false), NONE);
        due("odds of log 1", x.odds(0, 1, 0, true), NONE);
        OneReader y = withLog(SMALL, "knows 0;not 0;");
        due("odds of what does not fit", y.odds(0, 0, 0, false), NONE);
        due("odds of nothing", withLog(SMALL, "knows 0;not 0;").odds(0, 0, 0, true), NONE);
        due("odds of ten", withLog(SMALL, "knows 0;").odds(0, 0, 2, false), 4);
        due("odds of ten, under", withLog(SMALL, "knows 0;").odds(0, 0, 2, true), 5);
    }

    // 35
    private static void ago() {
        OneReader x = small();
        due("least", x.ago(0, 0, false), 0);
        due("most", x.ago(0, 0, true), 1);
        due("most is 0", withLog(SMALL, "knows 0;not 1;").ago(0, 0, true), 0);
        due("least is 1", withLog(SMALL, "knows 0;knows 1;not 2;").ago(0, 0, false), 1);
        due("ago as -2 of fits", x.ago(1, 0, false), NONE);
        due("ago in library 2", x.ago(2, 0, true), NONE);
        due("ago of log 1", x.ago(0, 1, true), NONE);
        due("ago of nothing", withLog(SMALL, "knows 0;not 0;").ago(0, 0, true), NONE);
        due("least of all in a row", withLog(SMALL, "knows 2;knows 0;").ago(0, 0, false), 2);
        due("most of all in a row", withLog(SMALL, "knows 2;knows 0;").ago(0, 0, true), 9);
    }

    // 36
    private static void count() {
        OneReader x = small();
        int[][] answers = {{0, 2}, {1, 1}, {2, 1}, {3, -2}, {-1, -2}, {FAR, -2}, {LOW, -2}};
        for (int[] a : answers) {
            due("count " + a[0], x.count(a[0]), a[1]);
        }
        Telling.tell(x, 1, 0, "");
        due("count of years in place", x.count(1), 1);
        Telling.tell(x, 1, NONE, "");
        due("count of years", x.count(1), 2);
    }

    // 37
    private static void image() {
        OneReader x = new OneReader();
        due("image -1", x.image(-1), false);
        due("image 3", x.image(3), false);
        due("image FAR", x.image(FAR), false);
        due("image 0", x.image(0), true);
        due("image 2", x.image(2), true);
        due("again 1", x.again(1), false);
        due("again 0", x.again(0), true);
    }

    // 38
    private static void again() {
        OneReader x = small();
        Telling.tell(x, 1, NONE, "read 9;");
        Telling.tape(x, "lamp 9;");
        x.image(1);
        due("a new year", Telling.tell(x, 1, NONE, "day;"), 1);
        due("another library", Telling.tell(x, 0, 0, "lamp 12;chapter 1 1;"), 0);
        due("another year", Telling.tell(x, 1, 0, "pie 1;"), 0);
        due("another log", Telling.tell(x, 2, 0, "not 0;"), 0);
        due("image 0", x.image(0), true);
        due("again -1", x.again(-1), false);
        due("again 3", x.again(3), false);
        due("again 2", x.again(2), false);
        due("nothing came back", x.library(0, 2), 12);
        due("again 1", x.again(1), true);
        due("fault of the image", x.fault(0), 2);
        due("place of the image", x.fault(1), 5);
        due("years of the image", x.count(1), 1);
        due("deeds of the image", x.deed(0, NONE, 0), 13);
        due("facts of the image", x.fact(0, NONE, 0), 2);
        due("lamp of the image", x.library(0, 2), 5);
        due("chapters of the image", x.library(0, 0), 4);
        due("tape of the image", x.end(7), 7);
        due("no more of it", x.end(8), NONE);
        due("text of the image", x.text(0, 1), 1);
        due("lamp of the text", x.library(1, 2), 9);
        due("again 0", x.again(0), true);
        due("lamp of image 0", x.library(0, 2), 12);
        due("years of image 0", x.count(1), 2);
        due("log of image 0", x.fact(0, 0, 0), 1);
        due("again 1 once more", x.again(1), true);
        due("the image is as it was", x.library(1, 2), 3);
        due("and its tape", x.end(7), 7);
        due("image 1 anew", x.image(1), true);
    }

    /** As many as may be, for 512 calls. */
    private static void many() {
        String full = "chapter 9 0;chapter 8 1;chapter 7 2;chapter 6 3;chapter 5 4;chapter 4 5;chapter 3 0;chapter 2 1;"
                + "leans 7 6;leans 6 5;lamp 12;" + times(6, "person 9;") + "hears 1 0;hears 2 1;hears 3 2;hears 4 3;hears 5 4;";
        OneReader x = of(full);
        due("year", Telling.tell(x, 1, NONE, "read 0;tell 0 0;" + times(38, "day;")), 0);
        for (int i = 0; i < 400; i++) {
            due("state " + i, x.state(0, 0, 40, 0), 38);
        }
        due("all forgotten", x.after(0, 0, 1), 6);
        due("hours left", x.state(0, 0, 1, 3), 3);
        due("ways", x.shelf(0, 5), 6720);
    }
}
