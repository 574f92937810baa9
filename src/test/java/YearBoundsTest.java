/** Boundary cases of term 2, of DRAWN, and of the promises 8, 9, 19 and 33: years, deed by deed. */
public final class YearBoundsTest {
    private static final int NONE = -1;
    private static final String ONE = "chapter 1 0;person 1;";

    public static void main(String[] args) {
        mayBeRead();
        begins();
        read();
        skip();
        pie();
        cold();
        tell();
        toldOn();
        forgotten();
        dayOver();
        cantBe();
        endOfYear();
        state();
        till();
        drawn();
        drawnWithout();
        drawnAnswers();
        pies();
        forgot();
        gossip();
        first();
        bored();
        after();
        Sentence.finish("YearBoundsTest");
    }

    private static String times(int n, String s) {
        return s.repeat(n);
    }

    private static Asked live(String library, String year) {
        return Asked.on(library).year(year);
    }

    /** The YEAR's END, in the LIBRARY. */
    private static Asked ends(String library, String year, int end) {
        return live(library, year).asks("till 0 0 = " + end);
    }

    // ---- term 2

    private static void mayBeRead() {
        Sentence.says("A CHAPTER MAY be read, if it is not DONE, and all it LEANS on are DONE; READ ones and SKIPPED ones are DONE.");
        String three = "chapter 1 0;chapter 1 0;chapter 1 0;leans 2 0;leans 2 1;";
        live(three, "read 0;skip 1;read 2;").asks("state 0 0 0 5 = 3", "state 0 0 1 5 = 2", "state 0 0 2 5 = 4", "state 0 0 3 5 = 0");
        ends(three, "read 0;read 2;", 1);
        ends(three, "skip 1;skip 2;", 1);
        ends(three, "skip 0;skip 1;skip 2;", 3);
        ends(three, "read 1;read 0;read 2;", 3);
        // one that it leans on leans on another
        ends("chapter 1 0;chapter 1 0;chapter 1 0;leans 2 1;leans 1 0;", "skip 0;read 2;", 1);
        // HOURS, LIKES and colds are not asked for here
        live("chapter 9 0;likes 0 0;lamp 1;", "cold;").asks("state 0 0 0 5 = 1", "state 0 0 1 5 = 1");
        live("", "").asks("state 0 0 0 5 = 0");
        live(times(8, "chapter 1 0;") + "leans 7 0;", "").asks("state 0 0 0 5 = 127");
    }

    private static void begins() {
        Sentence.says("A YEAR of a LIBRARY begins on day 0, nothing being DONE, nobody KNOWING anything, LAMP HOURS being left, no cold.");
        Asked x = Asked.on("chapter 1 0;likes 0 7;lamp 12;person 1;").year("read 0;tell 0 0;cold;").year("");
        x.asks("state 0 0 3 4 = 1", "state 0 1 0 0 = 0", "state 0 1 0 1 = 0", "state 0 1 0 2 = 0", "state 0 1 0 3 = 12", "state 0 1 0 4 = 0", "state 0 1 0 5 = 1", "state 0 1 0 10 = 7",
                "state 0 1 0 11 = 5", "state 0 1 0 20 = 0", "state 0 1 0 100 = N");
        // a YEAR asked of once more begins anew, in another LIBRARY too
        x.library("chapter 9 0;lamp 9;").asks("state 0 0 1 3 = 11", "state 1 0 1 3 = 0", "state 0 0 1 3 = 11", "state 0 0 0 3 = 12", "state 1 0 0 3 = 9");
    }

    private static void read() {
        Sentence.says("read: a CHAPTER that MAY be, for which there are HOURS left, its TOPIC being LIKED more than 0, no cold: it is READ; HOURS less are left; its TOPIC is LIKED 1 less.");
        // HOURS: as many, one fewer
        ends("chapter 9 0;lamp 9;", "read 0;", 1).asks("state 0 0 1 3 = 0", "state 0 0 1 1 = 1", "state 0 0 1 2 = 0");
        ends("chapter 9 0;lamp 8;", "read 0;", 0);
        ends("chapter 5 0;chapter 2 0;lamp 7;", "read 0;read 1;", 2).asks("state 0 0 1 3 = 2", "state 0 0 2 3 = 0");
        ends("chapter 5 0;chapter 2 0;lamp 6;", "read 0;read 1;", 1);
        ends("chapter 1 0;chapter 9 0;lamp 1;", "read 0;day;read 1;", 2);
        // LIKED: 1, 0
        ends("chapter 1 3;likes 3 1;", "read 0;", 1).asks("state 0 0 1 13 = 0", "state 0 0 1 12 = 5");
        ends("chapter 1 3;likes 3 0;", "read 0;", 0);
        ends("chapter 1 3;chapter 1 3;likes 3 1;", "read 1;day;read 0;", 2);
        ends("chapter 1 3;chapter 1 4;likes 3 1;likes 4 1;", "read 1;read 0;", 2);
        ends("chapter 1 3;", "cold;read 0;", 1);
        // once alone, on another day too
        ends("chapter 1 3;", "read 0;read 0;", 1);
        ends("chapter 1 3;", "read 0;day;read 0;", 2);
    }

    private static void skip() {
        Sentence.says("skip: one that MAY be read: it is SKIPPED.");
        // without HOURS, LIKES, with a cold: nothing is taken
        ends("chapter 9 0;likes 0 0;lamp 1;", "cold;skip 0;", 2).asks("state 0 0 2 2 = 1", "state 0 0 2 1 = 0", "state 0 0 2 3 = 1", "state 0 0 2 10 = 0", "state 0 0 2 4 = 1");
        ends("chapter 1 0;chapter 1 0;leans 1 0;", "skip 1;", 0);
        ends("chapter 1 0;", "skip 0;skip 0;", 1);
        ends("chapter 1 0;", "read 0;skip 0;", 1);
        ends("chapter 1 0;", "skip 0;read 0;", 1);
        ends("chapter 1 0;", "skip 0;day;read 0;", 2);
        // a SKIPPED one is not READ: it can't be told
        ends(ONE, "skip 0;tell 0 0;", 1);
    }

    private static void pie() {
        Sentence.says("pie: a TOPIC is LIKED 2 more, 9 at most.");
        int[][] rows = {{0, 2}, {1, 3}, {5, 7}, {6, 8}, {7, 9}, {8, 9}, {9, 9}};
        for (int[] row : rows) {
            ends("likes 4 " + row[0] + ";", "pie 4;", 1).asks("state 0 0 0 14 = " + row[0], "state 0 0 1 14 = " + row[1], "state 0 0 1 13 = 5", "state 0 0 1 15 = 5");
        }
        // at 9 too it is a DEED, and with a cold, and of a TOPIC of no CHAPTER
        ends("likes 4 9;", "cold;pie 4;pie 4;day;", 4).asks("after 0 0 0 = 2");
        ends("likes 0 0;", "pie 0;pie 0;pie 0;pie 0;pie 0;", 5).asks("state 0 0 4 10 = 8", "state 0 0 5 10 = 9");
        // nothing but LIKES changes
        live(ONE, "pie 0;").asks("state 0 0 1 0 = 0", "state 0 0 1 3 = 6", "state 0 0 1 4 = 0");
    }

    private static void cold() {
        Sentence.says("cold: if he has none, he has one.");
        ends("", "cold;", 1).asks("state 0 0 0 4 = 0", "state 0 0 1 4 = 1");
        ends("", "cold;cold;", 1);
        ends("", "cold;pie 0;cold;", 2);
        ends("", "cold;day;cold;", 3).asks("state 0 0 2 4 = 0", "state 0 0 3 4 = 1");
        Sentence.says("no cold; LAMP HOURS are left; the next day.");
        ends("chapter 6 0;", "cold;day;read 0;", 3);
    }

    private static void tell() {
        Sentence.says("tell: a READ CHAPTER, a PERSON: he KNOWS it, as just heard (though he did ahead); not with a cold.");
        ends(ONE, "tell 0 0;", 0);
        ends(ONE, "read 0;tell 0 0;", 2).asks("state 0 0 1 20 = 0", "state 0 0 1 100 = N", "state 0 0 2 20 = 1", "state 0 0 2 100 = 0");
        ends(ONE, "read 0;cold;tell 0 0;", 2);
        ends(ONE, "read 0;cold;day;tell 0 0;", 4);
        ends("chapter 1 0;person 3;", "read 0;tell 0 0;day;day;tell 0 0;day;day;day;", 8)
                .asks("state 0 0 4 100 = 2", "state 0 0 5 100 = 0", "state 0 0 7 100 = 2", "state 0 0 8 100 = N");
        // on a later day too, to each PERSON by himself, each CHAPTER by itself
        ends("chapter 1 0;chapter 1 0;person 9;person 9;", "read 0;day;read 1;tell 0 1;tell 1 0;tell 1 1;", 6).asks("state 0 0 6 20 = 2", "state 0 0 6 21 = 3", "state 0 0 4 21 = 1");
        // it takes no HOURS
        ends("chapter 6 0;person 1;", "read 0;tell 0 0;tell 0 0;", 3).asks("state 0 0 3 3 = 0", "state 0 0 3 10 = 4");
    }

    private static void toldOn() {
        Sentence.says("day: all at once, who HEARS one who KNOWS a CHAPTER KNOWS it, too, if he did not (as just heard)");
        String row = "chapter 1 0;" + times(6, "person 9;") + "hears 1 0;hears 2 1;hears 3 2;hears 4 3;hears 5 4;";
        Asked x = live(row, "read 0;tell 0 0;day;day;day;day;day;");
        // one PERSON further each day, though they come in order
        for (int day = 0; day <= 5; day++) {
            for (int p = 0; p < 6; p++) {
                String days = p <= day ? Integer.toString(day - p) : "N";
                x.asks("state 0 0 " + (day + 2) + " " + (100 + 8 * p) + " = " + days);
            }
        }
        String back = "chapter 1 0;person 9;person 9;person 9;hears 0 1;hears 1 2;";
        live(back, "read 0;tell 0 2;day;day;").asks("state 0 0 3 20 = 0", "state 0 0 3 21 = 1", "state 0 0 4 20 = 1");
        // who KNOWS it is not told anew
        live("chapter 1 0;person 9;person 9;hears 0 1;hears 1 0;", "read 0;tell 0 0;day;tell 0 1;day;").asks("state 0 0 3 100 = 1", "state 0 0 3 108 = 0", "state 0 0 5 100 = 2", "state 0 0 5 108 = 1");
        // by one CHAPTER, not by another; not from who hears to whom he hears
        live("chapter 1 0;chapter 1 0;person 9;person 9;hears 1 0;", "read 0;read 1;tell 1 0;tell 0 1;day;").asks("state 0 0 5 20 = 2", "state 0 0 5 21 = 3");
    }

    private static void forgotten() {
        Sentence.says("who KNEW it has KNOWN it one day longer, and if that is his MEMORY, he KNOWS it no more");
        for (int memory = 1; memory <= 9; memory++) {
            Asked x = live("chapter 1 0;person " + memory + ";", "read 0;tell 0 0;" + times(10, "day;"));
            for (int day = 0; day <= 10; day++) {
                boolean knows = day < memory;
                x.asks("state 0 0 " + (day + 2) + " 100 = " + (knows ? day : NONE), "state 0 0 " + (day + 2) + " 20 = " + (knows ? 1 : 0));
            }
        }
        // on the day on which he forgets it he tells it on, but does not hear it
        live("chapter 1 0;person 1;person 1;hears 0 1;hears 1 0;", "read 0;tell 0 0;day;day;day;")
                .asks("state 0 0 3 20 = 0", "state 0 0 3 21 = 1", "state 0 0 4 20 = 1", "state 0 0 4 21 = 0", "state 0 0 5 20 = 0", "state 0 0 5 108 = 0");
        live("chapter 1 0;person 2;person 9;hears 0 1;", "read 0;tell 0 0;tell 0 1;day;day;day;")
                .asks("state 0 0 4 100 = 1", "state 0 0 5 100 = N", "state 0 0 6 100 = 0", "state 0 0 6 108 = 3");
        // he may be told again
        ends(ONE, "read 0;tell 0 0;day;tell 0 0;", 4).asks("state 0 0 3 20 = 0", "state 0 0 4 100 = 0");
    }

    private static void dayOver() {
        Sentence.says("LAMP HOURS are left; the next day.");
        // HOURS that were not used are not kept
        ends("chapter 4 0;chapter 4 0;lamp 4;", "read 0;day;read 1;day;day;", 5).asks("state 0 0 1 3 = 0", "state 0 0 2 3 = 4", "state 0 0 2 0 = 1", "state 0 0 5 3 = 4", "state 0 0 5 0 = 3");
        ends("chapter 9 0;lamp 5;", "day;read 0;", 1);
        live("", times(40, "day;")).asks("state 0 0 40 0 = 40", "state 0 0 39 0 = 39");
        // what is LIKED stays
        live("chapter 1 0;", "read 0;pie 1;day;").asks("state 0 0 3 10 = 4", "state 0 0 3 11 = 7", "state 0 0 3 1 = 1");
    }

    private static void cantBe() {
        Sentence.says("A DEED can't be, if there is no such CHAPTER, PERSON, or it is not as said.");
        String seven = times(7, "chapter 1 0;") + "likes 0 9;lamp 12;" + times(5, "person 1;");
        ends(seven, "read 6;tell 6 4;skip 5;", 3);
        ends(seven, "read 7;", 0);
        ends(seven, "skip 7;", 0);
        ends(seven, "tell 7 0;", 0);
        ends(seven, "read 0;tell 7 0;", 1);
        ends(seven, "read 0;tell 0 5;", 1);
        ends("", "read 0;", 0);
        ends("", "skip 0;", 0);
        ends("person 1;", "tell 0 0;", 0);
        ends("chapter 1 0;", "read 0;tell 0 0;", 1);
        // these need none
        ends("", "pie 5;cold;day;", 3);
        // what can't be is not done, nor all behind it
        live("chapter 1 0;chapter 1 0;likes 0 0;", "pie 1;read 0;pie 1;day;skip 0;").asks("till 0 0 = 1", "after 0 0 0 = 1", "state 0 0 1 11 = 7", "state 0 0 2 11 = -2");
    }

    private static void endOfYear() {
        Sentence.says("END: the first DEED that can't be, else how many there are.");
        ends("chapter 1 0;", "", 0);
        ends("chapter 1 0;", "read 1;", 0);
        ends("chapter 1 0;", "read 0;", 1);
        ends("chapter 1 0;", times(39, "day;") + "read 0;", 40);
        ends("chapter 1 0;", times(39, "day;") + "read 1;", 39);
        ends("chapter 1 0;", "day;read 1;day;read 2;", 1);
    }

    private static void state() {
        Sentence.says("A STATE is behind the first n DEEDS, n up to END.");
        Asked x = live("chapter 1 0;person 1;", "day;day;read 1;day;");
        x.asks("state 0 0 0 0 = 0", "state 0 0 1 0 = 1", "state 0 0 2 0 = 2", "state 0 0 3 0 = -2", "state 0 0 4 0 = -2", "state 0 0 5 0 = -2", "state 0 0 -1 0 = -2",
                "state 0 0 MAX 0 = -2", "state 0 0 MIN 0 = -2");
        live("", "").asks("state 0 0 0 0 = 0", "state 0 0 1 0 = -2");
        live("", times(40, "day;")).asks("state 0 0 40 0 = 40", "state 0 0 41 0 = -2");
        Sentence.says("Of a STATE, what 0: the day, 1, 2: READ, SKIPPED ones (bits), 3: HOURS left, 4: 1 if he has a cold, else 0, 5: CHAPTERS that MAY be read (bits), ");
        Asked each = live("chapter 2 0;chapter 1 0;chapter 1 0;chapter 1 0;leans 3 0;", "read 0;skip 2;cold;day;");
        int[][] behind = {{0, 0, 0, 6, 0, 7, -2}, {0, 1, 0, 4, 0, 14, -2}, {0, 1, 4, 4, 0, 10, -2}, {0, 1, 4, 4, 1, 10, -2}, {1, 1, 4, 6, 0, 10, -2}, {-2, -2, -2, -2, -2, -2, -2}};
        for (int n = 0; n <= 5; n++) {
            for (int what = 0; what <= 6; what++) {
                each.asks("state 0 0 " + n + " " + what + " = " + behind[n][what]);
            }
        }
        Sentence.says("10 + t: how much a TOPIC is LIKED, 20 + p: what a PERSON KNOWS (bits), 100 + 8 p + c: how many days a PERSON has KNOWN a CHAPTER (NONE: he does not). "
                + "-2: there is no such STATE, or for another what.");
        Asked full = live(times(8, "chapter 1 0;") + "likes 0 9;lamp 12;" + times(6, "person 9;"), times(1, "read 7;tell 7 5;day;"));
        for (int what = -2; what <= 160; what++) {
            full.asks("state 0 0 3 " + what + " = " + fullAnswer(what));
        }
        full.asks("state 0 0 3 MAX = -2", "state 0 0 3 MIN = -2");
        // CHAPTERS and PEOPLE that are not there
        Asked few = live("chapter 1 0;chapter 1 0;person 1;", "");
        few.asks("state 0 0 0 20 = 0", "state 0 0 0 21 = -2", "state 0 0 0 100 = N", "state 0 0 0 101 = N", "state 0 0 0 102 = -2", "state 0 0 0 107 = -2", "state 0 0 0 108 = -2", "state 0 0 0 109 = -2");
        live("chapter 1 0;", "").asks("state 0 0 0 20 = -2", "state 0 0 0 100 = -2");
        live("person 1;", "").asks("state 0 0 0 20 = 0", "state 0 0 0 100 = -2", "state 0 0 0 1 = 0", "state 0 0 0 5 = 0", "state 0 0 0 15 = 5");
        few.asks("state 1 0 0 0 = -2", "state 0 1 0 0 = -2", "state -1 0 0 0 = -2", "state 0 -1 0 0 = -2", "state MAX MIN 0 0 = -2");
    }

    /** Of eight CHAPTERS, six PEOPLE, behind read 7; tell 7 5; day; */
    private static int fullAnswer(int what) {
        int[] first = {1, 128, 0, 12, 0, 127};
        if (what >= 0 && what < 6) {
            return first[what];
        }
        if (what >= 10 && what < 16) {
            return what == 10 ? 8 : 5;
        }
        if (what >= 20 && what < 26) {
            return what == 25 ? 128 : 0;
        }
        if (what >= 100 && what < 148) {
            return what == 147 ? 1 : NONE;
        }
        return -2;
    }

    private static void till() {
        Sentence.says("END. NONE: there is none such (of either).");
        Asked x = live("", "day;").asks("till 0 0 = 1", "till 1 0 = N", "till 0 1 = N", "till -1 0 = N", "till 0 -1 = N", "till 2 0 = N", "till 0 2 = N", "till MAX 0 = N", "till 0 MIN = N");
        x.library("").year("").asks("till 1 1 = 0", "till 1 0 = 1", "till 0 1 = 0");
        new Asked().asks("till 0 0 = N");
        new Asked().library("").asks("till 0 0 = N");
        new Asked().year("").asks("till 0 0 = N");
    }

    // ---- DRAWN

    /** The numbers as the document draws them, in 64 bits. */
    private static final class Draws {
        private long x;

        Draws(int seed) {
            x = seed & 0xffffffffL;
        }

        int below(int n) {
            x = (x * 1103515245L + 12345L) % 4294967296L;
            return (int) (x / 65536L % n);
        }
    }

    private static String drawnDeed(Draws draws, int chapters, int people) {
        switch (draws.below(8)) {
            case 0:
            case 1:
                return chapters == 0 ? "" : "read " + draws.below(chapters) + ";";
            case 2:
                return chapters == 0 ? "" : "skip " + draws.below(chapters) + ";";
            case 3:
                return "pie " + draws.below(6) + ";";
            case 4:
            case 5:
                return chapters == 0 || people == 0 ? "" : "tell " + draws.below(chapters) + " " + draws.below(people) + ";";
            case 6:
                return "cold;";
            default:
                return "day;";
        }
    }

    /** The YEAR of those drawn DEEDS that can be, as far as a YEAR goes; drawn() must answer as state() of it. */
    private static void drawnAsYear(String library, int chapters, int people, int seed, int most) {
        Draws draws = new Draws(seed);
        StringBuilder year = new StringBuilder();
        int deeds = 0;
        for (int n = 1; n <= most && deeds < 40; n++) {
            String deed = drawnDeed(draws, chapters, people);
            Asked x = Asked.on(library);
            if (!deed.isEmpty()) {
                Telling.tell(x.x, 1, NONE, year + deed);
                if (x.x.till(0, 0) == deeds + 1) {
                    year.append(deed);
                    deeds++;
                }
            }
            Telling.tell(x.x, 1, x.x.count(1) == 0 ? NONE : 0, year.toString());
            for (int what = 0; what < 148; what = what == 25 ? 100 : what + 1) {
                if (n % 7 == 0 || n == most || what < 6) {
                    Sentence.due("drawn 0 " + seed + " " + n + " " + what, x.x.drawn(0, seed, n, what), x.x.state(0, 0, deeds, what));
                }
            }
        }
    }

    private static void drawn() {
        Sentence.says("a number below 8: 0, 1: read, 2: skip, a CHAPTER, below CHAPTERS; 3: pie, a TOPIC, below 6; 4, 5: tell, a CHAPTER, a PERSON, below PEOPLE; 6: cold; 7: day; each, if it may.");
        drawnAsYear(times(8, "chapter 1 0;") + "likes 0 9;lamp 12;" + times(6, "person 9;"), 8, 6, 4242, 60);
        drawnAsYear("chapter 6 0;chapter 6 1;chapter 6 2;leans 1 0;leans 2 1;person 1;", 3, 1, -4242, 60);
        Sentence.says("DRAWN by a SEED, x; a number below n is drawn: x becomes x * 1103515245 + 12345 (of 32 bits), it is x shifted right by 16 without sign, remainder by n: n times, 0 to 60");
        String library = "chapter 1 0;chapter 2 1;chapter 3 2;leans 2 0;person 2;person 3;hears 1 0;";
        for (int seed : new int[] {0, 1, -1, 12345, 65535, 65536, Integer.MAX_VALUE, Integer.MIN_VALUE, -12345, 1103515245, -1103515245}) {
            drawnAsYear(library, 3, 2, seed, 60);
        }
        drawnAsYear(times(8, "chapter 1 0;") + times(6, "person 2;") + "hears 0 5;", 8, 6, 77, 60);
        drawnAsYear("chapter 9 0;lamp 1;person 1;", 1, 1, -7, 60);
        // the first number below 8 of these: with a sign it would be another one, or none
        Asked x = Asked.on("chapter 1 0;");
        x.asks("drawn 0 0 0 0 = 0", "drawn 0 0 60 6 = -2", "drawn 0 0 61 0 = -2", "drawn 0 0 -1 0 = -2", "drawn 0 0 MAX 0 = -2", "drawn 0 0 MIN 0 = -2");
        for (int seed = -200; seed < 200; seed++) {
            Draws draws = new Draws(seed);
            int sort = draws.below(8);
            x.asks("drawn 0 " + seed + " 1 0 = " + (sort == 7 ? 1 : 0));
        }
        for (int seed = -200; seed < 200; seed++) {
            Draws draws = new Draws(seed * 10737418);
            int sort = draws.below(8);
            Asked y = Asked.on("chapter 1 0;").asks("drawn 0 " + seed * 10737418 + " 1 4 = " + (sort == 6 ? 1 : 0), "drawn 0 " + seed * 10737418 + " 1 1 = " + (sort < 2 ? 1 : 0),
                    "drawn 0 " + seed * 10737418 + " 1 2 = " + (sort == 2 ? 1 : 0));
            int topic = sort == 3 ? draws.below(6) : NONE;
            for (int t = 0; t < 6; t++) {
                int liked = 5 + (t == topic ? 2 : 0) - (sort < 2 && t == 0 ? 1 : 0);
                y.asks("drawn 0 " + seed * 10737418 + " 1 " + (10 + t) + " = " + liked);
            }
        }
    }

    private static void drawnWithout() {
        Sentence.says("(Without CHAPTERS 0 to 2, 4 and 5, without PEOPLE 4 and 5 draw no more, nothing is done.)");
        for (int seed : new int[] {0, 3, -1, 99, Integer.MIN_VALUE}) {
            drawnAsYear("", 0, 0, seed, 60);
            drawnAsYear("person 2;person 3;", 0, 2, seed, 60);
            drawnAsYear("chapter 1 0;chapter 2 1;", 2, 0, seed, 60);
        }
    }

    private static void drawnAnswers() {
        Sentence.says("DRAWN, n times, what as state(). -2: there is none such, another n, or for another what.");
        Asked x = Asked.on("chapter 1 0;person 1;lamp 3;");
        x.asks("drawn 1 0 0 0 = -2", "drawn -1 0 0 0 = -2", "drawn MAX 0 0 0 = -2", "drawn 0 0 60 0 = " + drawnDays(0, 1, 1), "drawn 0 0 61 0 = -2");
        int[][] rows = {{0, 0}, {1, 0}, {2, 0}, {3, 3}, {4, 0}, {5, 1}, {6, -2}, {9, -2}, {10, 5}, {15, 5}, {16, -2}, {20, 0}, {21, -2}, {99, -2}, {100, NONE}, {101, -2}, {108, -2}, {-1, -2}};
        for (int[] row : rows) {
            x.asks("drawn 0 5 0 " + row[0] + " = " + row[1]);
        }
        x.asks("drawn 0 5 0 MAX = -2", "drawn 0 5 0 MIN = -2");
        // it is no YEAR, and none is asked for
        x.asks("count 1 = 0");
    }

    private static int drawnDays(int seed, int chapters, int people) {
        Draws draws = new Draws(seed);
        int days = 0;
        for (int i = 0; i < 60; i++) {
            days += drawnDeed(draws, chapters, people).equals("day;") ? 1 : 0;
        }
        return days;
    }

    // ---- behind all DEEDS up to END

    private static void pies() {
        Sentence.says("Of a YEAR in a LIBRARY, behind all DEEDS up to END: PIES;");
        live("", "").asks("after 0 0 0 = 0");
        live("", times(40, "pie 1;")).asks("after 0 0 0 = 40");
        live("", "pie 0;pie 5;read 0;pie 1;").asks("after 0 0 0 = 2");
        live("likes 1 9;", "pie 1;day;cold;pie 1;").asks("after 0 0 0 = 2");
    }

    private static void forgot() {
        Sentence.says("FORGOT: how often somebody forgot a CHAPTER;");
        live("", "").asks("after 0 0 1 = 0");
        live("chapter 1 0;person 2;", "read 0;tell 0 0;day;").asks("after 0 0 1 = 0");
        live("chapter 1 0;person 2;", "read 0;tell 0 0;day;day;").asks("after 0 0 1 = 1");
        // each time, each CHAPTER, each PERSON; not behind END
        live(ONE, "read 0;tell 0 0;day;tell 0 0;day;day;").asks("after 0 0 1 = 2");
        live(ONE, "read 0;tell 0 0;read 0;day;").asks("after 0 0 1 = 0");
        live("chapter 1 0;chapter 1 0;person 1;person 1;", "read 0;read 1;tell 0 0;tell 1 0;tell 1 1;day;day;").asks("after 0 0 1 = 3");
        live("chapter 1 0;person 1;person 1;hears 0 1;hears 1 0;", "read 0;tell 0 0;" + times(38, "day;")).asks("after 0 0 1 = 38");
        // told anew he has not forgotten it
        live("chapter 1 0;person 2;", "read 0;tell 0 0;day;tell 0 0;day;").asks("after 0 0 1 = 0");
    }

    private static void gossip() {
        Sentence.says("GOSSIP: who KNEW most CHAPTERS at once in any STATE, of several the first to, then the least (nobody any: none);");
        String two = "chapter 1 0;chapter 1 0;chapter 1 0;person 9;person 9;person 9;";
        String all = "read 0;read 1;read 2;";
        live(two, "").asks("after 0 0 2 = N");
        live(two, all).asks("after 0 0 2 = N");
        live("", "day;").asks("after 0 0 2 = N");
        live(two, all + "tell 0 2;").asks("after 0 0 2 = 2");
        // as many is not more: the first to
        live(two, all + "tell 0 2;tell 1 0;").asks("after 0 0 2 = 2");
        live(two, all + "tell 0 2;tell 1 0;tell 2 0;").asks("after 0 0 2 = 0");
        live(two, all + "tell 0 2;tell 1 2;tell 1 0;tell 2 0;").asks("after 0 0 2 = 2");
        // at once: not one behind the other
        live("chapter 1 0;chapter 1 0;person 1;person 9;", "read 0;read 1;tell 0 0;day;tell 1 0;day;tell 0 1;").asks("after 0 0 2 = 0");
        live("chapter 1 0;chapter 1 0;person 1;person 9;", "read 0;read 1;tell 0 0;day;tell 1 0;day;tell 0 1;tell 1 1;").asks("after 0 0 2 = 1");
        // in any STATE: also if he has forgotten it since
        live(ONE, "read 0;tell 0 0;day;").asks("after 0 0 2 = 0", "state 0 0 3 20 = 0");
        // on one day two come to KNOW as many: the least
        live("chapter 1 0;chapter 1 0;person 1;person 1;person 9;person 9;hears 2 0;hears 2 1;hears 3 0;hears 3 1;", "read 0;read 1;tell 0 1;tell 1 0;day;").asks("after 0 0 2 = 2");
        // the same told twice is one
        live(two, all + "tell 0 2;tell 0 2;tell 1 0;tell 2 0;").asks("after 0 0 2 = 0");
        // not behind END
        live(two, all + "tell 0 2;read 0;tell 1 0;tell 2 0;").asks("after 0 0 2 = 2");
    }

    private static void first() {
        Sentence.says("FIRST: the DEED (from 0 on) by which the first CHAPTER was READ (none);");
        live(ONE, "").asks("after 0 0 3 = N");
        live(ONE, "skip 0;day;").asks("after 0 0 3 = N");
        live(ONE, "read 0;").asks("after 0 0 3 = 0");
        live("chapter 1 0;chapter 1 0;", "day;skip 1;read 0;").asks("after 0 0 3 = 2");
        live("chapter 1 0;chapter 1 0;", "day;read 1;read 0;").asks("after 0 0 3 = 1");
        live(ONE, times(39, "day;") + "read 0;").asks("after 0 0 3 = 39");
        // what can't be is not READ
        live(ONE, "cold;read 0;").asks("after 0 0 3 = N");
        live("chapter 1 0;likes 0 0;", "read 0;").asks("after 0 0 3 = N");
    }

    private static void bored() {
        Sentence.says("BORED: TOPICS (bits) that were LIKED 0 in any STATE.");
        live("", "").asks("after 0 0 4 = 0");
        live("likes 0 0;likes 5 0;", "").asks("after 0 0 4 = 33");
        live("likes 0 0;", "pie 0;").asks("after 0 0 4 = 1");
        live("chapter 1 3;likes 3 1;", "read 0;").asks("after 0 0 4 = 8");
        live("chapter 1 3;likes 3 2;", "read 0;").asks("after 0 0 4 = 0");
        live("chapter 1 3;likes 3 1;", "read 0;pie 3;").asks("after 0 0 4 = 8");
        live("chapter 1 3;likes 3 1;", "skip 0;").asks("after 0 0 4 = 0");
        live("chapter 1 3;likes 3 1;", "cold;cold;read 0;").asks("after 0 0 4 = 0");
        live("chapter 1 0;chapter 1 1;chapter 1 2;chapter 1 3;chapter 1 4;chapter 1 5;likes 0 1;likes 1 1;likes 2 1;likes 3 1;likes 4 1;likes 5 1;",
                "read 0;read 1;read 2;read 3;read 4;read 5;").asks("after 0 0 4 = 63");
    }

    private static void after() {
        Sentence.says("What 0: PIES, 1: FORGOT, 2: GOSSIP (NONE), 3: FIRST (NONE), 4: BORED (bits). -2: there is none such (of either), or for another what.");
        live("likes 4 0;", "pie 1;").asks("after 0 0 0 = 1", "after 0 0 1 = 0", "after 0 0 2 = N", "after 0 0 3 = N", "after 0 0 4 = 16", "after 0 0 5 = -2", "after 0 0 -1 = -2", "after 0 0 MAX = -2",
                "after 0 0 MIN = -2", "after 1 0 0 = -2", "after 0 1 0 = -2", "after -1 0 0 = -2", "after 0 -1 0 = -2", "after MAX 0 0 = -2", "after 0 MIN 0 = -2");
        new Asked().library("").asks("after 0 0 0 = -2");
        new Asked().year("").asks("after 0 0 0 = -2");
        // each LIBRARY has its own END
        Asked x = live("chapter 1 0;person 1;likes 0 1;", "pie 1;read 0;tell 0 0;day;pie 2;").library("");
        x.asks("after 0 0 0 = 2", "after 0 0 1 = 1", "after 0 0 2 = 0", "after 0 0 3 = 1", "after 0 0 4 = 1", "after 1 0 0 = 1", "after 1 0 1 = 0", "after 1 0 2 = N", "after 1 0 3 = N", "after 1 0 4 = 0");
    }
}
