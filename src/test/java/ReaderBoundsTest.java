/** Boundary cases of the terms 3 and 6, and of the promises 10 to 12, 15, 16, 20 to 27 and 32: what he reads, and which CHAPTERS. */
public final class ReaderBoundsTest {
    private static final int NONE = -1;
    private static final String LONG = "chapter 9 0;".repeat(8);
    private static final String SHORT = "chapter 1 0;".repeat(8);

    public static void main(String[] args) {
        himselfDays();
        himselfTies();
        himselfStops();
        himselfAsTold();
        himselfAnswers();
        baitFewest();
        baitRows();
        baitAnswers();
        order();
        orderAnswers();
        orderTies();
        game();
        gameAnswers();
        gameFirst();
        coldsEnds();
        coldsLikely();
        coldsAnswers();
        finish();
        finishAgain();
        dull();
        under();
        keystone();
        shelfDays();
        rows();
        halves();
        shelfAnswers();
        lessons();
        lessonsRows();
        feast();
        feastRows();
        sweet();
        ladder();
        ladderTies();
        dim();
        ban();
        share();
        waits();
        asTold();
        Sentence.finish("ReaderBoundsTest");
    }

    private static String times(int n, String s) {
        return s.repeat(n);
    }

    /** CHAPTERS of TOPIC 0 by their HOURS. */
    private static String hours(int... hours) {
        StringBuilder s = new StringBuilder();
        for (int h : hours) {
            s.append("chapter ").append(h).append(" 0;");
        }
        return s.toString();
    }

    /** How many (k NONE), then each of a row, then none behind it; the row answers a call "himself 0 1 k". */
    private static void row(Asked x, String call, int... row) {
        x.asks(call + " N = " + row.length);
        for (int k = 0; k < row.length; k++) {
            x.asks(call + " " + k + " = " + row[k]);
        }
        x.asks(call + " " + row.length + " = N", call + " -2 = N", call + " MAX = N", call + " MIN = N");
    }

    // ---- HIMSELF

    private static void himselfDays() {
        Sentence.says("HIMSELF, n days, 0 .. 20: on each day he reads, as long as there is a CHAPTER that he could (as read)");
        Asked x = Asked.on(LONG + "likes 0 9;lamp 9;");
        for (int n = 0; n <= 20; n++) {
            x.asks("himself 0 " + n + " N = " + Math.min(n, 8));
        }
        x.asks("himself 0 21 N = N", "himself 0 -1 N = N", "himself 0 MAX N = N", "himself 0 MIN N = N", "himself 0 21 0 = N");
        // HOURS: as many as are left, one fewer; they are not kept for the next day
        row(Asked.on(hours(5, 7) + "lamp 12;"), "himself 0 1", 0, 1);
        row(Asked.on(hours(5, 7) + "lamp 11;"), "himself 0 1", 0);
        row(Asked.on(hours(3, 3, 3) + "lamp 5;"), "himself 0 2", 0, 1);
        row(Asked.on(hours(9) + "lamp 8;"), "himself 0 20");
        row(Asked.on(hours(9) + "lamp 9;"), "himself 0 1", 0);
        row(Asked.on(SHORT + "likes 0 9;lamp 8;"), "himself 0 1", 0, 1, 2, 3, 4, 5, 6, 7);
        row(Asked.on(SHORT + "likes 0 9;lamp 7;"), "himself 0 1", 0, 1, 2, 3, 4, 5, 6);
        row(Asked.on(""), "himself 0 20");
    }

    private static void himselfTies() {
        Sentence.says("of these the one of which the TOPIC is LIKED most, of several the one of fewest HOURS, of several the least");
        row(Asked.on("chapter 1 0;chapter 3 1;likes 0 4;"), "himself 0 1", 1, 0);
        row(Asked.on("chapter 2 1;chapter 1 0;chapter 1 2;"), "himself 0 1", 1, 2, 0);
        row(Asked.on("chapter 1 1;chapter 1 0;"), "himself 0 1", 0, 1);
        // by what is LIKED now: the TOPIC of what he just read is LIKED 1 less
        row(Asked.on("chapter 1 0;chapter 1 0;chapter 2 1;"), "himself 0 1", 0, 2, 1);
        row(Asked.on("chapter 1 0;chapter 1 0;chapter 2 1;likes 0 6;"), "himself 0 1", 0, 1, 2);
        row(Asked.on("chapter 1 0;chapter 1 0;chapter 2 1;likes 0 7;"), "himself 0 1", 0, 1, 2);
        // of those that he could: HOURS left, what it leans on
        row(Asked.on("chapter 4 0;chapter 3 0;chapter 2 1;likes 0 9;likes 1 1;lamp 6;"), "himself 0 1", 1, 2);
        row(Asked.on("chapter 4 0;chapter 3 0;chapter 2 1;likes 0 9;likes 1 1;lamp 7;"), "himself 0 1", 1, 0);
        row(Asked.on("chapter 1 0;chapter 1 1;likes 1 9;leans 1 0;"), "himself 0 1", 0, 1);
    }

    private static void himselfStops() {
        Sentence.says("then the day is over: READ ones in their order: how many; the k-th.");
        // not LIKED any more; what leans on what he never reads
        row(Asked.on(hours(1, 1, 1) + "likes 0 2;"), "himself 0 20", 0, 1);
        row(Asked.on(hours(1) + "likes 0 0;"), "himself 0 20");
        row(Asked.on("chapter 9 0;chapter 1 1;chapter 1 2;leans 1 0;lamp 8;"), "himself 0 20", 2);
        row(Asked.on("chapter 9 0;chapter 1 1;leans 1 0;lamp 9;"), "himself 0 1", 0);
        row(Asked.on("chapter 9 0;chapter 1 1;leans 1 0;lamp 9;"), "himself 0 2", 0, 1);
        row(Asked.on("chapter 9 0;chapter 1 1;leans 1 0;lamp 9;"), "himself 0 0");
    }

    private static void himselfAsTold() {
        Sentence.says("3. (Of a LIBRARY as told.)");
        // whatever was done in a YEAR
        Asked x = Asked.on(hours(2, 2, 2) + "likes 0 2;person 1;").year("read 1;skip 0;pie 0;pie 0;tell 1 0;cold;");
        x.x.drawn(0, 1, 60, 1);
        x.asks("till 0 0 = 6", "state 0 0 6 10 = 5", "himself 0 1 N = 2", "himself 0 1 0 = 0", "himself 0 1 1 = 1", "bait 0 2 1 N = 1", "order 0 2 true = 1", "game 0 2 true = 0", "news 0 0 0 = 1",
                "himself 0 1 N = 2", "library 0 40 = 2", "state 0 0 6 10 = 5");
    }

    private static void himselfAnswers() {
        Sentence.says("HIMSELF, n days: how many (k NONE), or the k-th. NONE: not so many, another n, or there is none such.");
        new Asked().asks("himself 0 1 N = N", "himself 0 1 0 = N");
        Asked.on(SHORT).asks("himself 1 1 N = N", "himself -1 1 N = N", "himself MAX 1 N = N", "himself MIN 1 0 = N", "himself 0 1 4 = 4", "himself 0 1 5 = N");
        // each LIBRARY by itself, in any order of asking
        Asked.on(hours(1)).library(hours(1, 1)).asks("himself 1 1 N = 2", "himself 0 1 N = 1", "himself 0 1 1 = N", "himself 1 1 1 = 1");
    }

    private static void asTold() {
        Sentence.says("6. (Of a LIBRARY as told.)");
        String[] rows = {"shelf 0 0 = N", "shelf 0 1 = 4", "shelf 0 2 = 0", "shelf 0 3 = 1", "shelf 0 4 = 2", "shelf 0 5 = 3", "shelf 0 6 = 2", "shelf 0 7 = 1", "shelf 0 12 = 1",
            "lessons 0 2 N = 4", "lessons 0 2 1 = 1", "feast 0 2 1 N = 3", "feast 0 2 1 0 = 0", "sweet 0 0 2 = 1", "ladder 0 N = 2", "ladder 0 1 = 2", "dim 0 2 = 4", "ban 0 false = 0", "ban 0 true = 1",
            "share 0 0 false = 1", "rumour 0 0 1 = 2", "rumour 0 0 N = 3", "between 0 0 1 = 1", "between 0 1 0 = N", "centre 0 false = 0", "centre 0 true = 1", "loss 0 0 false = 1", "loss 0 0 true = 0",
            "waits 0 7 0 false = 2"};
        Asked x = Asked.on(hours(2, 2, 2) + "leans 2 0;likes 0 2;lamp 5;person 1;person 2;hears 1 0;").asks(rows);
        // whatever was done in a YEAR, or DRAWN
        x.year("read 1;skip 0;pie 0;pie 0;tell 1 0;cold;").asks("till 0 0 = 6").asks(rows).asks("state 0 0 6 2 = 1", "after 0 0 0 = 2", "drawn 0 1 60 6 = -2").asks(rows);
    }

    // ---- BAIT

    private static void baitFewest() {
        Sentence.says("BAIT of a CHAPTER, n days, 0 .. 20: the fewest pies, 4 at most, all ahead of day 0, by which he has READ it himself in n days");
        String rivals = "chapter 5 0;chapter 5 1;lamp 5;";
        row(Asked.on(rivals + "likes 0 4;likes 1 5;"), "bait 0 1 1");
        row(Asked.on(rivals + "likes 0 5;likes 1 4;"), "bait 0 1 1", 1);
        // as much LIKED is not enough, for CHAPTER 0 is less
        row(Asked.on(rivals + "likes 0 5;likes 1 3;"), "bait 0 1 1", 1, 1);
        row(Asked.on(rivals + "likes 0 5;likes 1 3;"), "bait 0 0 1");
        row(Asked.on(rivals + "likes 0 3;likes 1 5;"), "bait 0 0 1", 0);
        row(Asked.on(rivals + "likes 0 8;likes 1 3;"), "bait 0 1 1", 1, 1, 1);
        row(Asked.on(rivals + "likes 0 8;likes 1 1;"), "bait 0 1 1", 1, 1, 1, 1);
        Asked.on(rivals + "likes 0 8;likes 1 0;").asks("bait 0 1 1 N = N", "bait 0 1 1 0 = N", "bait 0 1 2 N = 1");
        // 9 at most, so that no pie makes it LIKED more than what is LIKED 9
        Asked.on(rivals + "likes 0 9;likes 1 8;").asks("bait 0 1 1 N = N", "bait 0 1 2 N = 0");
        row(Asked.on(rivals + "likes 0 8;likes 1 9;"), "bait 0 0 1", 0);
        // in n days: 0, 1, 2 .. 20
        Asked.on(rivals).asks("bait 0 0 0 N = N", "bait 0 0 1 N = 0", "bait 0 1 1 N = 1", "bait 0 1 2 N = 0", "bait 0 1 20 N = 0", "bait 0 1 21 N = N", "bait 0 1 -1 N = N");
        Asked.on(hours(9) + "lamp 8;").asks("bait 0 0 20 N = N");
        row(Asked.on(hours(1) + "likes 0 0;"), "bait 0 0 1", 0);
    }

    private static void baitRows() {
        Sentence.says("of which TOPICS, the first row by numbers, rising.");
        // a pie of TOPIC 2 makes him read CHAPTER 1 first, one of TOPIC 0 leaves no HOURS for CHAPTER 0
        row(Asked.on("chapter 5 1;chapter 4 2;chapter 1 0;likes 1 5;likes 2 4;likes 0 4;lamp 5;"), "bait 0 1 1", 0);
        row(Asked.on("chapter 5 1;chapter 4 0;chapter 1 2;likes 1 5;likes 2 4;likes 0 4;lamp 5;"), "bait 0 1 1", 0);
        row(Asked.on("chapter 1 4;chapter 1 1;leans 1 0;likes 4 0;likes 1 0;"), "bait 0 1 1", 1, 4);
        row(Asked.on("chapter 1 1;chapter 1 4;leans 1 0;likes 4 0;likes 1 0;"), "bait 0 1 1", 1, 4);
        row(Asked.on("chapter 1 5;chapter 1 0;chapter 1 3;chapter 1 2;leans 3 2;leans 3 1;leans 3 0;likes 0 0;likes 5 0;likes 3 0;likes 2 0;"), "bait 0 3 1", 0, 2, 3, 5);
        row(Asked.on(hours(1, 1, 1, 1, 1) + "leans 1 0;leans 2 1;leans 3 2;leans 4 3;likes 0 0;"), "bait 0 4 1", 0, 0, 0);
        row(Asked.on(times(2, "chapter 1 5;") + "leans 1 0;likes 5 0;"), "bait 0 1 1", 5);
        row(Asked.on(times(8, "chapter 1 5;") + "leans 1 0;leans 2 1;leans 3 2;leans 4 3;leans 5 4;leans 6 5;leans 7 6;likes 5 0;lamp 8;"), "bait 0 7 1", 5, 5, 5, 5);
    }

    private static void baitAnswers() {
        Sentence.says("BAIT of a CHAPTER, n days: how many pies (k NONE), or the TOPIC of the k-th.");
        row(Asked.on("chapter 1 4;chapter 1 1;leans 1 0;likes 4 0;likes 1 0;"), "bait 0 1 20", 1, 4);
        row(Asked.on("chapter 1 4;chapter 1 1;leans 1 0;likes 4 0;likes 1 0;"), "bait 0 0 20", 4);
        Sentence.says("NONE: not by 4, not so many, another n, or there is none such (of either).");
        Asked.on(hours(1)).asks("bait 0 0 1 N = 0", "bait 0 0 1 0 = N", "bait 0 1 1 N = N", "bait 0 -1 1 N = N", "bait 0 MAX 1 N = N", "bait 0 MIN 1 N = N", "bait 0 32 1 N = N", "bait 1 0 1 N = N",
                "bait -1 0 1 N = N", "bait 0 0 MAX N = N", "bait 0 0 MIN N = N");
        Asked.on("").asks("bait 0 0 1 N = N");
        new Asked().asks("bait 0 0 1 N = N");
        Asked.on(SHORT + "lamp 12;likes 0 9;").asks("bait 0 7 1 N = 0", "bait 0 8 1 N = N");
    }

    // ---- ORDER

    private static void order() {
        Sentence.says("ORDER of h HOURS, 0 .. 72: CHAPTERS such that all that any of them LEANS on are among them, HOURS no more than h together, as many as can be");
        Asked.on(LONG).asks("order 0 0 false = 0", "order 0 0 true = 0", "order 0 8 false = 0", "order 0 9 false = 1", "order 0 9 true = 1", "order 0 71 false = 7", "order 0 71 true = 127",
                "order 0 72 false = 8", "order 0 72 true = 255", "order 0 73 false = N", "order 0 73 true = N", "order 0 -1 false = N", "order 0 -1 true = N", "order 0 MAX true = N",
                "order 0 MIN true = N", "order 1 9 false = N", "order -1 9 true = N");
        // what it leans on, and so on, is among them
        String ladder = hours(1, 1, 1) + "leans 1 0;leans 2 1;";
        Asked.on(ladder).asks("order 0 1 true = 1", "order 0 2 true = 3", "order 0 3 true = 7");
        Asked.on(hours(9, 1, 1) + "leans 1 0;leans 2 1;").asks("order 0 8 false = 0", "order 0 9 true = 1", "order 0 10 true = 3", "order 0 11 true = 7");
        Asked.on(hours(9, 1, 1) + "leans 1 0;").asks("order 0 8 true = 4", "order 0 10 true = 3", "order 0 11 true = 7");
        Asked.on("").asks("order 0 0 false = 0", "order 0 72 true = 0", "order 0 73 false = N");
        // whatever the LAMP is, and is LIKED
        Asked.on(hours(9) + "lamp 1;likes 0 0;").asks("order 0 9 true = 1");
        Asked.on(hours(9, 1, 1) + "leans 1 0;leans 2 1;lamp 1;").asks("order 0 8 true = 0", "order 0 9 true = 1", "order 0 10 true = 3");
        new Asked().asks("order 0 9 true = N");
    }

    private static void orderAnswers() {
        Sentence.says("ORDER of h HOURS: how many, or (which) which (bits). NONE: another h, or there is none such.");
        Asked.on("").library(hours(1, 1)).asks("order 0 0 false = 0", "order 0 0 true = 0", "order 0 -1 false = N", "order 1 1 false = 1", "order 1 2 true = 3", "order 1 72 false = 2", "order 1 73 false = N",
                "order 2 1 false = N", "order 2 1 true = N", "order MAX 1 true = N", "order MIN 1 false = N");
    }

    private static void orderTies() {
        Sentence.says("how many; which (bits), of several the least.");
        Asked.on(hours(3, 1, 1, 3)).asks("order 0 1 true = 2", "order 0 2 true = 6", "order 0 3 true = 6", "order 0 4 true = 3", "order 0 5 true = 7", "order 0 7 true = 7", "order 0 8 true = 15");
        Asked.on(hours(2, 2, 1)).asks("order 0 1 true = 4", "order 0 2 true = 1", "order 0 3 true = 5", "order 0 4 true = 3", "order 0 5 true = 7");
        // as many as can be, not as many HOURS as can be
        Asked.on(hours(9, 1, 1)).asks("order 0 9 true = 6", "order 0 10 true = 3", "order 0 9 false = 2");
    }

    // ---- GAME

    private static void game() {
        Sentence.says("GAME of h HOURS, 0 .. 72: two by turns order a CHAPTER that MAY be read, all ordered ones being DONE, for which there are HOURS left of h; who can't has lost");
        Asked x = Asked.on(LONG);
        for (int h = 0; h <= 72; h++) {
            x.asks("game 0 " + h + " false = " + h / 9 % 2);
        }
        x.asks("game 0 72 true = N", "game 0 71 true = 0", "game 0 73 false = -2", "game 0 73 true = -2", "game 0 -1 false = -2", "game 0 -1 true = -2", "game 0 MAX true = -2", "game 0 MIN false = -2",
                "game 1 9 false = -2", "game 1 9 true = -2", "game -1 9 true = -2");
        // what MAY be read
        Asked.on(hours(1, 1, 1) + "leans 1 0;leans 2 1;").asks("game 0 2 false = 0", "game 0 3 false = 1", "game 0 3 true = 0");
        Asked.on(hours(2, 1) + "leans 1 0;").asks("game 0 1 false = 0", "game 0 2 false = 1", "game 0 3 false = 0");
        Asked.on("").asks("game 0 0 false = 0", "game 0 72 true = N", "game 0 73 true = -2");
        new Asked().asks("game 0 9 false = -2", "game 0 9 true = -2");
        // whatever the LAMP is, and is LIKED
        Asked.on(hours(9) + "lamp 1;likes 0 0;").asks("game 0 9 false = 1", "game 0 8 false = 0");
    }

    private static void gameAnswers() {
        Sentence.says("GAME of h HOURS, or (first) which CHAPTER (NONE). -2: another h, or there is none such.");
        Asked.on("").library(hours(2)).asks("game 0 0 false = 0", "game 0 0 true = N", "game 0 -1 false = -2", "game 1 1 false = 0", "game 1 1 true = N", "game 1 2 false = 1", "game 1 2 true = 0", "game 1 72 true = 0",
                "game 1 73 true = -2", "game 2 2 false = -2", "game 2 2 true = -2", "game MAX 2 true = -2", "game MIN 2 false = -2");
    }

    private static void gameFirst() {
        Sentence.says("1, if the first can win, else 0; which CHAPTER first, the least by which he does (none).");
        Asked.on(hours(1, 1)).asks("game 0 0 true = N", "game 0 1 true = 0", "game 0 2 true = N", "game 0 1 false = 1", "game 0 2 false = 0");
        Asked.on(hours(1, 1, 2)).asks("game 0 1 true = 0", "game 0 2 true = 2", "game 0 3 true = N", "game 0 4 true = 0");
        Asked.on(hours(1, 2, 2)).asks("game 0 1 true = 0", "game 0 2 true = 0", "game 0 3 true = N", "game 0 4 true = N", "game 0 5 true = 0");
    }

    // ---- COLDS

    private static void colds(Asked x, String call, long top, long bottom) {
        x.asks("colds 0 " + call + " false = " + top, "colds 0 " + call + " true = " + bottom);
    }

    private static void coldsEnds() {
        Sentence.says("COLDS of some CHAPTERS (bits), n days, 1 .. 9, p, 0 .. 10:");
        Asked x = Asked.on(hours(1));
        for (int p = 0; p <= 10; p++) {
            // one day alone: by p of ten he has a cold
            int[][] well = {{1, 1}, {9, 10}, {4, 5}, {7, 10}, {3, 5}, {1, 2}, {2, 5}, {3, 10}, {1, 5}, {1, 10}, {0, 1}};
            colds(x, "1 1 " + p, well[p][0], well[p][1]);
        }
        for (int n = 1; n <= 9; n++) {
            colds(x, "1 " + n + " 5", (1 << n) - 1, 1 << n);
        }
    }

    private static void coldsLikely() {
        Sentence.says("on each day he has a cold by p of ten, by itself, else he reads LAMP HOURS: how likely all HOURS of these together are read in n days, a fraction in least terms.");
        // LAMP 3; HOURS 3, 1, 9, 5: 1, 1, 3, 2 days
        Asked x = Asked.on(hours(3, 1, 9, 5) + "lamp 3;");
        colds(x, "1 1 5", 1, 2);
        colds(x, "2 1 5", 1, 2);
        colds(x, "3 1 5", 0, 1);
        colds(x, "3 2 5", 1, 4);
        colds(x, "4 2 5", 0, 1);
        colds(x, "4 3 5", 1, 8);
        colds(x, "8 3 5", 1, 2);
        colds(x, "10 2 1", 81, 100);
        colds(x, "1 2 1", 99, 100);
        colds(x, "1 2 4", 21, 25);
        // all in all 18 HOURS, 6 days
        colds(x, "15 5 0", 0, 1);
        colds(x, "15 6 0", 1, 1);
        colds(x, "15 6 1", 531441, 1000000);
        // 0 and 1
        colds(x, "0 1 0", 1, 1);
        colds(x, "0 1 10", 1, 1);
        colds(x, "0 9 5", 1, 1);
        colds(x, "1 1 0", 1, 1);
        colds(x, "1 1 10", 0, 1);
        colds(x, "1 9 10", 0, 1);
        colds(x, "1 9 0", 1, 1);
        // a tenth of the days, nine times
        colds(x, "1 9 9", 612579511, 1000000000);
        Asked y = Asked.on(hours(9) + "lamp 1;");
        colds(y, "1 9 1", 387420489, 1000000000);
        colds(y, "1 9 9", 1, 1000000000);
        colds(y, "1 9 5", 1, 512);
        colds(y, "1 8 0", 0, 1);
        Asked z = Asked.on(LONG + "lamp 12;");
        // 72 HOURS, 6 days
        colds(z, "255 6 5", 1, 64);
        colds(z, "255 5 0", 0, 1);
        colds(z, "255 9 5", 65, 256);
        colds(Asked.on(LONG + "lamp 7;"), "255 9 0", 0, 1);
        colds(Asked.on(LONG + "lamp 8;"), "255 9 0", 1, 1);
    }

    private static void coldsAnswers() {
        Sentence.says("COLDS of CHAPTERS (bits), N, or (under) D. NONE: other numbers, a CHAPTER that is not there, or there is none such.");
        Asked x = Asked.on(hours(1, 1, 1));
        colds(x, "7 1 5", 1, 2);
        for (String call : new String[] {"8 1 5", "15 1 5", "-1 1 5", "MIN 1 5", "MAX 1 5", "128 1 5", "256 1 5", "7 0 5", "7 -1 5", "7 10 5", "7 MAX 5", "7 1 -1", "7 1 11", "7 1 MIN", "0 0 0", "0 10 0", "0 1 11"}) {
            colds(x, call, NONE, NONE);
        }
        x.asks("colds 1 1 1 5 false = N", "colds 1 1 1 5 true = N", "colds -1 0 1 5 false = N");
        colds(Asked.on(SHORT), "255 1 5", 0, 1);
        colds(Asked.on(SHORT), "256 1 5", NONE, NONE);
        colds(Asked.on(""), "0 1 5", 1, 1);
        colds(Asked.on(""), "1 1 5", NONE, NONE);
        colds(new Asked(), "0 1 5", NONE, NONE);
    }

    // ---- shelf

    private static void finish() {
        Sentence.says("FINISH: the fewest days, 99 at most, in which he has READ all CHAPTERS HIMSELF");
        Asked.on("").asks("shelf 0 0 = 0");
        Asked.on(hours(1)).asks("shelf 0 0 = 1");
        Asked.on(LONG + "likes 0 9;lamp 9;").asks("shelf 0 0 = 8");
        Asked.on(LONG + "likes 0 8;lamp 9;").asks("shelf 0 0 = 8");
        Asked.on(LONG + "likes 0 7;lamp 9;").asks("shelf 0 0 = N");
        Asked.on(hours(5, 7) + "lamp 12;").asks("shelf 0 0 = 1");
        Asked.on(hours(5, 7) + "lamp 11;").asks("shelf 0 0 = 2");
        Asked.on(hours(5, 7) + "lamp 6;").asks("shelf 0 0 = N");
        // by what he LIKES, not as few as could be: 4 and 2 come ahead of 3 and 3
        Asked.on("chapter 4 0;chapter 3 1;chapter 3 1;chapter 2 2;likes 0 9;likes 1 8;likes 2 7;").asks("shelf 0 0 = 2");
        Asked.on("chapter 4 0;chapter 3 1;chapter 3 2;chapter 2 3;likes 0 8;likes 1 9;likes 2 7;likes 3 8;").asks("shelf 0 0 = 3", "shelf 0 4 = 2");
    }

    private static void finishAgain() {
        Sentence.says("FINISH: the fewest days, 99 at most, in which he has READ all CHAPTERS HIMSELF");
        // not by what was asked ahead
        Asked.on(LONG + "likes 0 9;lamp 9;").library("").asks("shelf 0 0 = 8", "shelf 1 0 = 0", "shelf 0 1 = 0", "shelf 1 1 = 0", "shelf 0 0 = 8");
    }

    private static void dull() {
        Sentence.says("DULL: CHAPTERS (bits) that he has not READ HIMSELF in 99 days.");
        Asked.on("").asks("shelf 0 1 = 0");
        Asked.on(SHORT).asks("shelf 0 1 = 224");
        Asked.on(SHORT + "likes 0 9;lamp 1;").asks("shelf 0 1 = 0");
        Asked.on(SHORT + "likes 0 0;").asks("shelf 0 1 = 255");
        Asked.on(hours(6, 7)).asks("shelf 0 1 = 2");
        Asked.on("chapter 7 0;chapter 1 1;chapter 1 2;leans 1 0;").asks("shelf 0 1 = 3");
    }

    private static void under() {
        Sentence.says("UNDER a CHAPTER: all it LEANS on, and what these LEAN on, and so on (bits)");
        String all = SHORT + "leans 1 0;leans 2 1;leans 3 2;leans 4 3;leans 5 4;leans 6 5;leans 7 6;";
        Asked x = Asked.on(all);
        for (int c = 0; c < 8; c++) {
            x.asks("shelf 0 " + (10 + c) + " = " + ((1 << c) - 1), "library 0 " + (30 + c) + " = " + (c == 0 ? 0 : 1 << c - 1));
        }
        x.asks("shelf 0 18 = -2");
        Asked.on(hours(1, 1, 1, 1) + "leans 3 1;leans 2 0;").asks("shelf 0 13 = 2", "shelf 0 12 = 1", "shelf 0 11 = 0");
        Asked.on(hours(1, 1, 1, 1) + "leans 3 2;leans 2 0;").asks("shelf 0 13 = 5");
    }

    private static void keystone() {
        Sentence.says("KEYSTONE: the CHAPTER that is UNDER most others, of several the least; under how many.");
        Asked.on("").asks("shelf 0 2 = N", "shelf 0 3 = N");
        Asked.on(hours(1)).asks("shelf 0 2 = 0", "shelf 0 3 = 0");
        Asked.on(SHORT).asks("shelf 0 2 = 0", "shelf 0 3 = 0");
        Asked.on(SHORT + "leans 7 6;").asks("shelf 0 2 = 6", "shelf 0 3 = 1");
        Asked.on(SHORT + "leans 7 6;leans 7 5;").asks("shelf 0 2 = 5", "shelf 0 3 = 1");
        Asked.on(SHORT + "leans 7 6;leans 6 5;").asks("shelf 0 2 = 5", "shelf 0 3 = 2");
        Asked.on(SHORT + "leans 3 1;leans 4 1;leans 5 0;leans 6 5;leans 7 6;").asks("shelf 0 2 = 0", "shelf 0 3 = 3");
        Asked.on(SHORT + "leans 1 0;leans 2 0;leans 3 0;leans 4 0;leans 5 0;leans 6 0;leans 7 0;").asks("shelf 0 2 = 0", "shelf 0 3 = 7");
        // by two ways it is one
        Asked.on(hours(1, 1, 1, 1, 1) + "leans 1 0;leans 2 0;leans 3 1;leans 3 2;").asks("shelf 0 2 = 0", "shelf 0 3 = 3");
    }

    private static void shelfDays() {
        Sentence.says("SHELF: the fewest days in which all CHAPTERS can be read, no more than LAMP HOURS a day, none on two days, each behind all it LEANS on (on one day, too), whatever is LIKED.");
        Asked.on("").asks("shelf 0 4 = 0");
        Asked.on(hours(9) + "lamp 9;").asks("shelf 0 4 = 1");
        Asked.on(hours(9) + "lamp 8;").asks("shelf 0 4 = N");
        Asked.on(hours(1, 9, 1) + "lamp 8;").asks("shelf 0 4 = N");
        Asked.on(hours(1, 1, 1, 9) + "lamp 2;").asks("shelf 0 4 = N", "dim 0 20 = 9", "ban 0 false = 3", "ban 0 true = 2");
        Asked.on(LONG + "lamp 12;").asks("shelf 0 4 = 8");
        Asked.on(SHORT + "lamp 8;").asks("shelf 0 4 = 1");
        Asked.on(SHORT + "lamp 7;").asks("shelf 0 4 = 2");
        Asked.on(SHORT + "lamp 1;").asks("shelf 0 4 = 8");
        Asked.on(SHORT + "likes 0 0;lamp 8;").asks("shelf 0 4 = 1");
        // as they are packed best
        Asked.on(hours(3, 4, 3, 2)).asks("shelf 0 4 = 2");
        Asked.on(hours(3, 4, 3, 3)).asks("shelf 0 4 = 3");
        Asked.on(hours(6, 5, 4, 3, 3, 3) + "lamp 12;").asks("shelf 0 4 = 2");
        // none on two days, though the HOURS would do
        Asked.on(hours(4, 4, 4)).asks("shelf 0 4 = 3");
        // behind all it leans on, on one day too
        Asked.on(hours(1, 2, 3) + "leans 1 0;leans 2 1;").asks("shelf 0 4 = 1");
        Asked.on(hours(4, 4, 2, 2) + "leans 1 0;leans 2 1;").asks("shelf 0 4 = 2");
        Asked.on(hours(4, 4, 2, 2) + "leans 1 0;leans 2 1;leans 3 2;").asks("shelf 0 4 = 3");
        Asked.on(hours(4, 4, 2, 2) + "leans 1 0;leans 2 1;leans 3 1;").asks("shelf 0 4 = 3");
    }

    private static void rows() {
        Sentence.says("ROWS: in how many orders all CHAPTERS can be read, each behind all it LEANS on.");
        Asked.on("").asks("shelf 0 5 = 1");
        int ways = 1;
        for (int n = 1; n <= 8; n++) {
            ways *= n;
            Asked.on(times(n, "chapter 9 0;") + "lamp 1;likes 0 0;").asks("shelf 0 5 = " + ways);
        }
        Asked.on(SHORT + "leans 1 0;leans 2 1;leans 3 2;leans 4 3;leans 5 4;leans 6 5;leans 7 6;").asks("shelf 0 5 = 1");
        Asked.on(SHORT + "leans 7 0;").asks("shelf 0 5 = 20160");
        Asked.on(hours(1, 1, 1) + "leans 2 0;leans 2 1;").asks("shelf 0 5 = 2");
        Asked.on(hours(1, 1, 1) + "leans 2 0;leans 1 0;").asks("shelf 0 5 = 2");
        Asked.on(hours(1, 1, 1) + "leans 2 0;").asks("shelf 0 5 = 3");
    }

    private static void halves(String library, int apart, int one) {
        Asked.on(library).asks("shelf 0 6 = " + apart, "shelf 0 7 = " + one);
    }

    private static void halves() {
        Sentence.says("HALVES: two sets of all CHAPTERS such that their HOURS differ least: how much; the one (bits) without the last CHAPTER, of several the least.");
        halves("", 0, 0);
        halves(hours(9), 9, 0);
        halves(hours(1, 9), 8, 1);
        halves(hours(9, 1), 8, 1);
        halves(hours(5, 5), 0, 1);
        halves(hours(1, 1, 1), 1, 1);
        halves(hours(1, 1, 2), 0, 3);
        halves(hours(1, 2, 1), 0, 2);
        halves(hours(2, 1, 1), 0, 1);
        halves(hours(1, 1, 1, 1), 0, 3);
        halves(hours(3, 3, 3, 1), 2, 3);
        halves(hours(2, 3, 5, 4), 0, 5);
        halves(LONG, 0, 15);
        halves(SHORT + "leans 7 0;", 0, 15);
        halves(hours(1, 1, 1, 1, 1, 1, 1, 9), 2, 127);
    }

    private static void shelfAnswers() {
        Sentence.says("What 0: FINISH (NONE: not in 99), 1: DULL (bits), 2: KEYSTONE (NONE: no CHAPTERS), 3: under how many (NONE as well), ");
        Asked.on("").library(hours(1, 1) + "leans 1 0;likes 0 1;").asks("shelf 0 0 = 0", "shelf 0 1 = 0", "shelf 0 2 = N", "shelf 0 3 = N", "shelf 1 0 = N", "shelf 1 1 = 2", "shelf 1 2 = 0", "shelf 1 3 = 1");
        Sentence.says("4: SHELF (NONE: a CHAPTER takes more than LAMP), 5: ROWS, 6: HALVES, how much, 7: the one (bits), 10 + c: UNDER a CHAPTER (bits). "
                + "-2: there is none such (of either), or for another what.");
        Asked.on(hours(1, 1)).asks("shelf 0 8 = -2", "shelf 0 9 = -2", "shelf 0 10 = 0", "shelf 0 11 = 0", "shelf 0 12 = -2", "shelf 0 -1 = -2", "shelf 0 MAX = -2", "shelf 0 MIN = -2",
                "shelf 1 0 = -2", "shelf -1 4 = -2", "shelf 1 10 = -2", "shelf MAX 0 = -2");
        Asked.on("").asks("shelf 0 10 = -2", "shelf 0 8 = -2");
        new Asked().asks("shelf 0 0 = -2", "shelf 0 2 = -2", "shelf 0 4 = -2");
    }

    // ---- LESSONS

    private static void parts(String library, int n, int most, int... begins) {
        Asked x = Asked.on(library).asks("lessons 0 " + n + " N = " + most);
        for (int k = 0; k < n; k++) {
            x.asks("lessons 0 " + n + " " + k + " = " + begins[k]);
        }
        x.asks("lessons 0 " + n + " " + n + " = N", "lessons 0 " + n + " -2 = N");
    }

    private static void lessons() {
        Sentence.says("LESSONS of n, 1 .. 4: CHAPTERS by numbers in n parts, one behind the other (a part may be none): so that the most HOURS of any part are least: how much");
        parts(LONG, 1, 72, 0);
        parts(LONG, 2, 36, 0, 4);
        parts(LONG, 3, 27, 0, 2, 5);
        parts(LONG, 4, 18, 0, 2, 4, 6);
        parts(hours(9, 1, 1, 1), 2, 9, 0, 1);
        parts(hours(1, 1, 1, 9), 2, 9, 0, 3);
        parts(hours(1, 2, 3, 4, 5, 6, 7, 8), 4, 11, 0, 4, 6, 7);
        Asked.on(LONG).asks("lessons 0 0 N = N", "lessons 0 5 N = N", "lessons 0 -1 N = N", "lessons 0 MAX 0 = N", "lessons 0 MIN 0 = N", "lessons 0 0 0 = N", "lessons 0 5 0 = N", "lessons 0 4 MAX = N",
                "lessons 0 4 MIN = N", "lessons 1 1 N = N", "lessons -1 1 N = N");
        new Asked().asks("lessons 0 1 N = N", "lessons 0 1 0 = N");
    }

    private static void lessonsRows() {
        Sentence.says("with which CHAPTER each part begins, the first row by numbers.");
        parts(hours(1, 1, 1), 2, 2, 0, 1);
        parts(hours(3, 3), 2, 3, 0, 1);
        parts(hours(3, 3), 3, 3, 0, 0, 1);
        parts(hours(3, 3), 4, 3, 0, 0, 0, 1);
        parts(hours(1, 1), 3, 1, 0, 0, 1);
        parts(hours(1, 1), 4, 1, 0, 0, 0, 1);
        parts(hours(1, 1, 1), 4, 1, 0, 0, 1, 2);
        parts(hours(5), 2, 5, 0, 0);
        parts(hours(5), 4, 5, 0, 0, 0, 0);
        parts(hours(9, 1, 1), 3, 9, 0, 0, 1);
        parts(hours(1, 1, 9), 3, 9, 0, 0, 2);
        Sentence.says("LESSONS of n: how much (k NONE), or with which CHAPTER the k-th part begins (CHAPTERS, if none is left). NONE: no such part, another n, or there is none such.");
        Asked.on(hours(4, 4)).asks("lessons 0 1 N = 8", "lessons 0 1 0 = 0", "lessons 0 1 1 = N", "lessons 0 2 1 = 1", "lessons 0 2 2 = N", "lessons 0 4 3 = 1", "lessons 0 4 4 = N", "lessons 0 5 4 = N", "lessons 0 0 N = N",
                "lessons 1 1 0 = N", "lessons MAX 1 N = N", "lessons MIN 1 N = N");
        parts("", 1, 0, 0);
        parts("", 4, 0, 0, 0, 0, 0);
    }

    // ---- FEAST, SWEET

    private static void feast() {
        Sentence.says("FEAST of n days, 0 .. 20, m pies, 0 .. 3, all ahead of day 0: the most CHAPTERS he can have READ HIMSELF in n days");
        Asked x = Asked.on("chapter 1 1;chapter 1 1;chapter 1 1;chapter 1 1;chapter 1 4;chapter 1 4;chapter 1 4;likes 1 0;likes 4 0;lamp 12;");
        x.asks("feast 0 1 0 N = 0", "feast 0 1 1 N = 2", "feast 0 1 2 N = 4", "feast 0 1 3 N = 6", "feast 0 0 3 N = 0", "feast 0 0 0 N = 0", "feast 0 20 3 N = 6", "feast 0 21 3 N = N",
                "feast 0 -1 3 N = N", "feast 0 1 4 N = N", "feast 0 1 -1 N = N", "feast 0 MAX 0 N = N", "feast 0 1 MAX N = N", "feast 0 1 MIN N = N", "feast 1 1 1 N = N", "feast -1 1 1 N = N",
                "feast 0 21 3 0 = N", "feast 0 1 4 0 = N");
        Asked days = Asked.on(LONG + "likes 0 9;lamp 9;");
        days.asks("feast 0 1 0 N = 1", "feast 0 7 0 N = 7", "feast 0 20 0 N = 8", "feast 0 8 3 N = 8");
        Asked.on("").asks("feast 0 20 3 N = 0", "feast 0 20 3 2 = 0", "feast 0 20 3 3 = N", "feast 0 20 0 N = 0", "feast 0 20 0 0 = N");
        new Asked().asks("feast 0 1 1 N = N", "feast 0 1 1 0 = N");
    }

    private static void feastRow(Asked x, String call, int many, int... pies) {
        x.asks(call + " N = " + many);
        for (int k = 0; k < pies.length; k++) {
            x.asks(call + " " + k + " = " + pies[k]);
        }
        x.asks(call + " " + pies.length + " = N", call + " -2 = N", call + " MAX = N", call + " MIN = N");
    }

    private static void feastRows() {
        Sentence.says("FEAST of n days, m pies: how many (k NONE), or the TOPIC of the k-th pie. NONE: not so many, other numbers, or there is none such.");
        feastRow(Asked.on("chapter 1 1;likes 1 0;"), "feast 0 20 3", 1, 0, 0, 1);
        feastRow(Asked.on("chapter 1 1;likes 1 0;"), "feast 0 20 0", 0);
        Asked.on("").asks("feast 1 1 1 0 = N", "feast MAX 1 1 N = N", "feast MIN 1 1 N = N", "feast 0 MIN 1 N = N");
        Sentence.says("how many; of which TOPICS m pies are, the first row by numbers, rising.");
        Asked x = Asked.on("chapter 1 1;chapter 1 1;chapter 1 1;chapter 1 1;chapter 1 4;chapter 1 4;chapter 1 4;likes 1 0;likes 4 0;lamp 12;");
        feastRow(x, "feast 0 1 0", 0);
        feastRow(x, "feast 0 1 1", 2, 1);
        feastRow(x, "feast 0 1 2", 4, 1, 1);
        feastRow(x, "feast 0 1 3", 6, 1, 1, 4);
        feastRow(x, "feast 0 0 3", 0, 0, 0, 0);
        feastRow(Asked.on("chapter 1 5;chapter 1 2;likes 5 0;likes 2 0;"), "feast 0 1 2", 2, 2, 5);
        feastRow(Asked.on("chapter 1 5;likes 5 0;"), "feast 0 1 3", 1, 0, 0, 5);
        feastRow(Asked.on("chapter 1 5;"), "feast 0 1 3", 1, 0, 0, 0);
        // a pie that does harm is one of another TOPIC
        feastRow(Asked.on("chapter 5 0;chapter 2 1;chapter 2 1;likes 0 4;likes 1 5;lamp 5;"), "feast 0 1 2", 2, 0, 1);
        feastRow(Asked.on("chapter 5 0;chapter 2 1;chapter 2 1;likes 0 4;likes 1 5;lamp 5;"), "feast 0 1 1", 2, 1);
        // all do
        Asked harm = Asked.on("chapter 9 2;chapter 1 0;chapter 1 5;chapter 9 5;chapter 3 3;chapter 2 4;chapter 9 2;chapter 2 1;leans 2 0;leans 2 1;"
                + "likes 0 2;likes 1 2;likes 2 3;likes 3 1;likes 4 1;likes 5 2;lamp 9;");
        harm.asks("himself 0 2 N = 6", "sweet 0 0 2 = -1");
        for (int t = 0; t < 6; t++) {
            Sentence.due("harm by a pie of topic " + t, harm.x.sweet(0, t, 2) < 0 ? 1 : 0, 1);
        }
        feastRow(harm, "feast 0 2 0", 6);
        feastRow(harm, "feast 0 2 1", 5, 0);
        feastRow(Asked.on("chapter 6 0;chapter 1 1;chapter 6 1;chapter 6 2;chapter 6 3;chapter 6 4;chapter 6 5;likes 0 5;likes 1 5;"), "feast 0 1 1", 1, 0);
    }

    private static void sweet() {
        Sentence.says("SWEET of a TOPIC, n days, 0 .. 20: how many CHAPTERS more (or fewer, below 0) he has READ HIMSELF in n days, if ahead of day 0 he gets one pie of it.");
        Asked x = Asked.on("chapter 5 0;chapter 2 1;chapter 2 1;chapter 1 5;likes 0 4;likes 1 5;likes 5 0;lamp 5;");
        x.asks("sweet 0 0 1 = -1", "sweet 0 1 1 = 0", "sweet 0 2 1 = 0", "sweet 0 5 1 = 1", "sweet 0 5 0 = 0", "sweet 0 0 0 = 0", "sweet 0 0 2 = 0", "sweet 0 5 20 = 1", "sweet 0 0 20 = 0");
        Asked.on("chapter 1 3;chapter 1 3;chapter 1 3;likes 3 0;").asks("sweet 0 3 1 = 2", "sweet 0 3 20 = 2");
        Asked.on("chapter 1 3;chapter 1 3;chapter 1 3;likes 3 2;").asks("sweet 0 3 1 = 1");
        Asked.on("chapter 9 0;chapter 1 1;chapter 1 1;chapter 1 1;chapter 1 1;chapter 1 1;chapter 1 1;chapter 1 1;likes 0 8;likes 1 8;lamp 9;").asks("sweet 0 0 1 = -6", "sweet 0 1 1 = 0");
        Sentence.says("SWEET of a TOPIC, n days. -99: another n, no such TOPIC, or there is none such.");
        x.asks("sweet 0 6 1 = -99", "sweet 0 -1 1 = -99", "sweet 0 MAX 1 = -99", "sweet 0 MIN 1 = -99", "sweet 0 0 21 = -99", "sweet 0 0 -1 = -99", "sweet 0 0 MAX = -99", "sweet 1 0 1 = -99",
                "sweet -1 0 1 = -99");
        Asked.on("").asks("sweet 0 0 20 = 0", "sweet 0 5 0 = 0", "sweet 0 6 0 = -99");
        new Asked().asks("sweet 0 0 1 = -99");
    }

    // ---- LADDER

    private static void ladder() {
        Sentence.says("LADDER: how many (k NONE), or the k-th. NONE: not so many, or there is none such.");
        row(Asked.on(""), "ladder 0");
        row(Asked.on(hours(1)), "ladder 0", 0);
        row(Asked.on(SHORT), "ladder 0", 0);
        row(Asked.on(SHORT + "leans 7 6;"), "ladder 0", 6, 7);
        row(Asked.on(SHORT + "leans 1 0;leans 2 1;leans 3 2;leans 4 3;leans 5 4;leans 6 5;leans 7 6;"), "ladder 0", 0, 1, 2, 3, 4, 5, 6, 7);
        new Asked().asks("ladder 0 N = N", "ladder 0 0 = N");
        Asked.on(SHORT).asks("ladder 1 N = N", "ladder -1 N = N", "ladder MAX 0 = N");
    }

    private static void ladderTies() {
        Sentence.says("LADDER: the longest row of CHAPTERS each of which LEANS on the one ahead: how many; the first row by numbers: the k-th.");
        row(Asked.on(hours(1, 1, 1, 1) + "leans 3 0;leans 2 1;"), "ladder 0", 0, 3);
        row(Asked.on(hours(1, 1, 1, 1) + "leans 2 0;leans 3 0;"), "ladder 0", 0, 2);
        row(Asked.on(hours(1, 1, 1, 1, 1) + "leans 2 0;leans 3 1;leans 4 3;"), "ladder 0", 1, 3, 4);
        // a way of fewer does not lead astray
        row(Asked.on(hours(1, 1, 1, 1, 1) + "leans 1 0;leans 2 0;leans 3 2;leans 4 3;"), "ladder 0", 0, 2, 3, 4);
        row(Asked.on(hours(1, 1, 1, 1, 1) + "leans 2 0;leans 2 1;leans 3 2;leans 4 2;"), "ladder 0", 0, 2, 3);
        row(Asked.on(hours(1, 1, 1) + "leans 1 0;leans 2 1;leans 2 0;"), "ladder 0", 0, 1, 2);
        // a longer one that was asked for ahead is forgotten
        Asked.on(hours(1, 1, 1) + "leans 1 0;leans 2 1;").library(hours(1, 1)).asks("ladder 0 N = 3", "ladder 1 N = 1", "ladder 1 0 = 0", "ladder 1 1 = N", "ladder 0 2 = 2");
    }

    // ---- DIM, BAN, SHARE

    private static void dim() {
        Sentence.says("DIM of n days, 1 .. 20: the least LAMP, 1 .. 12, by which SHELF is n or fewer.");
        Asked x = Asked.on(hours(3, 1, 2, 1) + "lamp 2;");
        x.asks("dim 0 1 = 7", "dim 0 2 = 4", "dim 0 3 = 3", "dim 0 4 = 3", "dim 0 20 = 3", "dim 0 0 = N", "dim 0 21 = N", "dim 0 -1 = N", "dim 0 MAX = N", "dim 0 MIN = N", "dim 1 1 = N", "dim -1 1 = N");
        Asked.on(SHORT).asks("dim 0 1 = 8", "dim 0 2 = 4", "dim 0 3 = 3", "dim 0 4 = 2", "dim 0 7 = 2", "dim 0 8 = 1", "dim 0 20 = 1");
        Asked.on(hours(9, 3)).asks("dim 0 1 = 12", "dim 0 2 = 9");
        Asked.on(hours(9, 4)).asks("dim 0 1 = N", "dim 0 2 = 9");
        Asked.on(LONG).asks("dim 0 7 = N", "dim 0 8 = 9", "dim 0 20 = 9", "dim 0 1 = N");
        Asked.on("").asks("dim 0 1 = 1", "dim 0 20 = 1", "dim 0 0 = N", "dim 0 21 = N");
        // as SHELF is: each behind all it leans on
        Asked.on(hours(4, 4, 2, 2) + "leans 1 0;leans 2 1;leans 3 2;").asks("dim 0 2 = 8", "dim 0 3 = 4");
        Sentence.says("DIM of n days. NONE: by none, another n, or there is none such.");
        new Asked().asks("dim 0 1 = N");
        Asked.on(hours(9, 9)).asks("dim 0 1 = N", "dim 0 2 = 9", "dim 0 21 = N", "dim 0 0 = N", "dim 1 2 = N", "dim MAX 2 = N", "dim MIN 2 = N");
    }

    private static void ban(String library, int chapter, int days) {
        Asked.on(library).asks("ban 0 false = " + chapter, "ban 0 true = " + days);
    }

    private static void ban() {
        Sentence.says("BAN: the CHAPTER without which, and without all that it is UNDER, SHELF is fewest, of several the least; how many days that is.");
        ban(hours(9), 0, 0);
        ban(hours(3, 3, 3) + "lamp 3;", 0, 2);
        ban(hours(1, 6, 6), 0, 2);
        ban(hours(1, 6, 6) + "lamp 7;", 1, 1);
        ban(hours(1, 6, 6, 1) + "leans 3 0;", 0, 2);
        ban(hours(1, 6, 6, 1) + "leans 3 0;lamp 8;", 1, 1);
        // with it goes all that leans on it, and so on
        ban(hours(3, 3, 3, 3) + "leans 2 1;leans 3 2;lamp 3;", 1, 1);
        ban(hours(3, 3, 3, 3) + "leans 1 0;leans 2 1;leans 3 2;lamp 3;", 0, 0);
        ban(hours(3, 3, 3, 3) + "leans 3 1;lamp 3;", 1, 2);
        ban(LONG + "leans 7 6;lamp 9;", 6, 6);
        Sentence.says("BAN: the CHAPTER (NONE: no CHAPTERS), or (days) how many days (NONE: a CHAPTER that is left takes more than LAMP by each, or no CHAPTERS). -2: there is none such.");
        ban("", NONE, NONE);
        // one that is too long is left but by its own ban
        ban(hours(1, 9, 1) + "lamp 8;", 1, 1);
        ban(hours(1, 9, 1) + "leans 1 0;lamp 8;", 0, 1);
        ban(hours(1, 9, 9) + "leans 2 0;leans 1 0;lamp 8;", 0, 0);
        ban(hours(9, 1, 9) + "lamp 8;", 0, NONE);
        ban(hours(1, 9, 9) + "lamp 8;", 0, NONE);
        ban(hours(9, 9) + "leans 1 0;lamp 8;", 0, 0);
        Asked.on(hours(1)).asks("ban 1 false = -2", "ban 1 true = -2", "ban -1 false = -2", "ban MAX true = -2");
        new Asked().asks("ban 0 false = -2", "ban 0 true = -2");
    }

    private static void share(Asked x, int topic, int top, int bottom) {
        x.asks("share 0 " + topic + " false = " + top, "share 0 " + topic + " true = " + bottom);
    }

    private static void share() {
        Sentence.says("SHARE of a TOPIC: HOURS of its CHAPTERS of all HOURS, a fraction in least terms.");
        Asked x = Asked.on("chapter 3 0;chapter 2 1;chapter 4 5;chapter 3 0;");
        share(x, 0, 1, 2);
        share(x, 1, 1, 6);
        share(x, 2, 0, 1);
        share(x, 5, 1, 3);
        share(x, 6, NONE, NONE);
        share(x, -1, NONE, NONE);
        share(x, Integer.MAX_VALUE, NONE, NONE);
        share(x, Integer.MIN_VALUE, NONE, NONE);
        share(Asked.on(LONG), 0, 1, 1);
        share(Asked.on("chapter 9 5;"), 5, 1, 1);
        share(Asked.on("chapter 9 5;"), 4, 0, 1);
        share(Asked.on(LONG), 5, 0, 1);
        share(Asked.on("chapter 1 5;" + times(7, "chapter 9 0;")), 5, 1, 64);
        share(Asked.on("chapter 4 5;chapter 9 1;"), 1, 9, 13);
        Sentence.says("SHARE of a TOPIC, N, or (under) D. NONE: no CHAPTERS, no such TOPIC, or there is none such.");
        share(Asked.on(""), 0, NONE, NONE);
        share(Asked.on("likes 0 9;"), 0, NONE, NONE);
        share(new Asked(), 0, NONE, NONE);
        x.asks("share 1 0 false = N", "share -1 0 true = N");
    }

    // ---- WAIT

    private static void waits(Asked x, String call, int top, int bottom) {
        x.asks("waits 0 " + call + " false = " + top, "waits 0 " + call + " true = " + bottom);
    }

    private static void waits() {
        Sentence.says("WAIT of some CHAPTERS (bits), p, 0 .. 9: how many days it takes in the mean until all HOURS of these are read (as by COLDS), a fraction in least terms.");
        // LAMP 3; HOURS 3, 1, 9, 5
        Asked x = Asked.on(hours(3, 1, 9, 5) + "lamp 3;");
        int[][] tenths = {{1, 1}, {10, 9}, {5, 4}, {10, 7}, {5, 3}, {2, 1}, {5, 2}, {10, 3}, {5, 1}, {10, 1}};
        for (int p = 0; p <= 9; p++) {
            waits(x, "1 " + p, tenths[p][0], tenths[p][1]);
            waits(x, "0 " + p, 0, 1);
        }
        waits(x, "2 0", 1, 1);
        waits(x, "3 0", 2, 1);
        waits(x, "4 0", 3, 1);
        waits(x, "4 7", 10, 1);
        waits(x, "4 1", 10, 3);
        waits(x, "15 4", 10, 1);
        waits(x, "15 1", 20, 3);
        waits(Asked.on(LONG + "lamp 1;"), "255 9", 720, 1);
        waits(Asked.on(LONG + "lamp 1;"), "255 1", 80, 1);
        waits(Asked.on(LONG + "lamp 12;"), "255 0", 6, 1);
        Sentence.says("WAIT, N, or (under) D. NONE: another p, a CHAPTER that is not there, or there is none such.");
        for (String call : new String[] {"1 10", "1 -1", "1 MAX", "1 MIN", "0 10", "16 0", "-1 0", "MIN 0", "MAX 0", "31 5"}) {
            waits(x, call, NONE, NONE);
        }
        x.asks("waits 1 0 0 false = N", "waits -1 0 0 true = N");
        waits(Asked.on(SHORT), "256 0", NONE, NONE);
        waits(Asked.on(""), "0 0", 0, 1);
        waits(Asked.on(""), "1 0", NONE, NONE);
        waits(new Asked(), "0 0", NONE, NONE);
    }
}
