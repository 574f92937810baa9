/** Boundary cases of the terms 3, 4 and 6, and of the promises 13, 14, 18, 28 to 31, 34 and 35: who hears from whom, who was told first. */
public final class PeopleBoundsTest {
    private static final int NONE = -1;
    /** Each hears the one ahead, and forgets at once. */
    private static final String ROW = "person 1;".repeat(6) + "hears 1 0;hears 2 1;hears 3 2;hears 4 3;hears 5 4;";
    /** Each hears the one behind. */
    private static final String BACK = "person 1;".repeat(6) + "hears 0 1;hears 1 2;hears 2 3;hears 3 4;hears 4 5;";
    private static final String DEAF = "person 9;".repeat(6);
    private static final String RING = "person 1;".repeat(6) + "hears 1 0;hears 2 1;hears 3 2;hears 4 3;hears 5 4;hears 0 5;";

    public static void main(String[] args) {
        news();
        tellers();
        fitsNumbers();
        sure();
        ask();
        fitsAnswers();
        rumour();
        dies();
        between();
        centre();
        loss();
        odds();
        ago();
        manyCalls();
        Sentence.finish("PeopleBoundsTest");
    }

    private static String times(int n, String s) {
        return s.repeat(n);
    }

    private static void news() {
        Sentence.says("NEWS of a PERSON, n days, 0 .. 9: he alone KNOWS something, and nobody forgets: who KNOWS it behind n days, told on as by day (bits).");
        Asked row = Asked.on(ROW);
        Asked ring = Asked.on(RING);
        for (int n = 0; n <= 9; n++) {
            int reached = (1 << Math.min(n, 5) + 1) - 1;
            row.asks("news 0 0 " + n + " = " + reached, "news 0 5 " + n + " = 32", "news 0 4 " + n + " = " + (n == 0 ? 16 : 48));
            int round = reached << 3;
            ring.asks("news 0 3 " + n + " = " + ((round | round >> 6) & 63));
        }
        row.asks("news 0 0 10 = N", "news 0 0 -1 = N", "news 0 0 MAX = N", "news 0 0 MIN = N");
        Asked.on(DEAF).asks("news 0 2 9 = 4", "news 0 2 0 = 4");
        // he HEARS whom: not the other way round
        Asked.on("person 1;person 1;hears 0 1;").asks("news 0 0 9 = 1", "news 0 1 0 = 2", "news 0 1 1 = 3");
        Sentence.says("NEWS (bits). NONE: another n, or there is none such (of either).");
        row.asks("news 0 6 0 = N", "news 0 -1 0 = N", "news 0 MAX 0 = N", "news 0 MIN 0 = N", "news 0 32 0 = N", "news 1 0 0 = N", "news -1 0 0 = N");
        Asked.on("").asks("news 0 0 0 = N");
        Asked.on("person 1;").asks("news 0 0 9 = 1", "news 0 1 0 = N");
        new Asked().asks("news 0 0 0 = N");
    }

    private static void tellers(Asked x, int n, int many, int who) {
        x.asks("tellers 0 " + n + " false = " + many, "tellers 0 " + n + " true = " + who);
    }

    private static void tellers() {
        Sentence.says("TELLERS of n days: the fewest PEOPLE who are to KNOW it at first, so that all KNOW it behind n days; who (bits), of several the least.");
        Asked row = Asked.on(ROW);
        tellers(row, 0, 6, 63);
        tellers(row, 1, 3, 21);
        tellers(row, 2, 2, 9);
        tellers(row, 3, 2, 5);
        tellers(row, 4, 2, 3);
        tellers(row, 5, 1, 1);
        tellers(row, 9, 1, 1);
        Asked ring = Asked.on(RING);
        tellers(ring, 1, 3, 21);
        tellers(ring, 2, 2, 9);
        tellers(ring, 4, 2, 3);
        tellers(ring, 5, 1, 1);
        tellers(Asked.on(DEAF), 9, 6, 63);
        // all hear the last one
        Asked last = Asked.on("person 1;person 1;person 1;hears 0 2;hears 1 2;");
        tellers(last, 0, 3, 7);
        tellers(last, 1, 1, 4);
        tellers(last, 9, 1, 4);
        tellers(Asked.on("person 1;person 1;hears 0 1;hears 1 0;"), 1, 1, 1);
        // the fewest, though two of less numbers would do
        tellers(Asked.on("person 1;person 1;person 1;hears 0 2;hears 1 2;hears 2 0;"), 1, 1, 4);
        Sentence.says("TELLERS of n days, 0 .. 9: how many, or (who) who (bits). NONE: another n, or there is none such.");
        tellers(row, 10, NONE, NONE);
        tellers(row, -1, NONE, NONE);
        tellers(row, Integer.MAX_VALUE, NONE, NONE);
        tellers(row, Integer.MIN_VALUE, NONE, NONE);
        row.asks("tellers 1 0 false = N", "tellers 1 0 true = N", "tellers -1 0 true = N");
        tellers(Asked.on(""), 0, 0, 0);
        tellers(Asked.on(""), 9, 0, 0);
        tellers(Asked.on(""), 10, NONE, NONE);
        tellers(new Asked(), 0, NONE, NONE);
    }

    // ---- by a LOG

    /** All that FIT, and none behind. */
    private static void fit(Asked x, int... fits) {
        x.asks("fits 0 0 0 = " + fits.length);
        for (int k = 0; k < fits.length; k++) {
            x.asks("fits 0 0 " + (10 + k) + " = " + fits[k]);
        }
        x.asks("fits 0 0 " + (10 + fits.length) + " = -2");
    }

    private static void fitsNumbers() {
        Sentence.says("By a LOG in a LIBRARY: one PERSON was told something, days ago, 0 .. 9, and it was told on as NEWS: PEOPLE and days (10 times the PERSON, and days) FIT, if each FACT is so now: how many; the k-th, by numbers");
        int[] all = new int[60];
        for (int k = 0; k < 60; k++) {
            all[k] = k;
        }
        fit(Asked.on(ROW).log(""), all);
        fit(Asked.on(DEAF).log(""), all);
        fit(Asked.on("person 1;").log(""), 0, 1, 2, 3, 4, 5, 6, 7, 8, 9);
        fit(Asked.on("").log(""));
        fit(Asked.on(ROW).log("knows 0;not 5;"), 0, 1, 2, 3, 4);
        fit(Asked.on(ROW).log("knows 0;knows 5;"), 5, 6, 7, 8, 9);
        fit(Asked.on(ROW).log("knows 2;not 3;"), 2, 11, 20);
        fit(Asked.on(ROW).log("knows 5;not 4;"), 50, 51, 52, 53, 54, 55, 56, 57, 58, 59);
        // nobody forgets it, though MEMORY is 1
        fit(Asked.on("person 1;person 1;hears 1 0;").log("knows 0;knows 1;"), 1, 2, 3, 4, 5, 6, 7, 8, 9);
        // each FACT
        fit(Asked.on(ROW).log("knows 0;not 0;"));
        fit(Asked.on(ROW).log("not 0;not 1;not 2;not 3;not 4;not 5;"));
        fit(Asked.on(ROW).log("knows 0;knows 0;knows 1;knows 2;knows 3;knows 4;not 5;not 5;"), 4);
    }

    private static void sure() {
        Sentence.says("SURE of the PERSON: him, if it is one in all");
        Asked.on(ROW).log("knows 0;").asks("fits 0 0 1 = 0");
        Asked.on(ROW).log("knows 5;not 4;").asks("fits 0 0 1 = 5");
        Asked.on(ROW).log("knows 1;not 2;").asks("fits 0 0 1 = N", "fits 0 0 0 = 2");
        Asked.on(BACK).log("knows 5;knows 1;not 0;").asks("fits 0 0 0 = 1", "fits 0 0 10 = 54", "fits 0 0 1 = 5");
        Asked.on(BACK).log("knows 4;knows 0;not 5;").asks("fits 0 0 0 = 6", "fits 0 0 10 = 44", "fits 0 0 15 = 49", "fits 0 0 1 = 4");
        Asked.on(ROW).log("knows 0;not 0;").asks("fits 0 0 1 = N");
        Asked.on("person 1;").log("").asks("fits 0 0 1 = 0");
        Asked.on("person 1;person 1;").log("").asks("fits 0 0 1 = N");
        Asked.on("").log("").asks("fits 0 0 1 = N");
    }

    private static void ask() {
        Sentence.says("ASK: the PERSON of whom, of those that FIT, the greater number by which he KNOWS it or does not is least, of several the least.");
        Asked.on("").log("").asks("fits 0 0 2 = N");
        Asked.on(ROW).log("knows 0;not 0;").asks("fits 0 0 2 = N");
        Asked.on("person 1;").log("").asks("fits 0 0 2 = 0");
        Asked.on(DEAF).log("").asks("fits 0 0 2 = 0");
        // told 0 days ago by 0 .. 9: PERSON k KNOWS it from day k on, so that 5 and 5 part them best
        Asked.on(ROW).log("knows 0;").asks("fits 0 0 2 = 5");
        // 5 of 5 days each: all are alike
        Asked.on(ROW).log("knows 0;knows 5;").asks("fits 0 0 2 = 0");
        Asked.on(ROW).log("knows 0;not 5;").asks("fits 0 0 2 = 2");
        Asked.on(ROW).log("knows 2;not 3;").asks("fits 0 0 2 = 0");
        // one alone FITS: nobody parts it
        Asked.on(ROW).log("knows 0;not 1;").asks("fits 0 0 0 = 1", "fits 0 0 2 = 0");
        Asked.on("person 1;person 1;person 1;hears 1 0;hears 2 0;").log("not 0;").asks("fits 0 0 2 = 1");
        Asked.on("person 1;person 1;person 1;person 1;").log("not 0;not 1;").asks("fits 0 0 2 = 2");
    }

    private static void fitsAnswers() {
        Sentence.says("What 0: how many FIT, 1: SURE (NONE: not one), 2: ASK (NONE: nothing FITS), ");
        Asked.on("person 1;person 1;").log("").log("knows 1;").asks("fits 0 0 0 = 20", "fits 0 0 1 = N", "fits 0 0 2 = 0", "fits 0 1 0 = 10", "fits 0 1 1 = 1", "fits 0 1 2 = 0");
        Sentence.says("10 + k: the k-th. -2: a PERSON that was told of is not there, there is none such (of any), or for another what.");
        Asked x = Asked.on("person 1;person 1;").log("knows 1;not 0;");
        x.asks("fits 0 0 0 = 10", "fits 0 0 1 = 1", "fits 0 0 2 = 0", "fits 0 0 3 = -2", "fits 0 0 9 = -2", "fits 0 0 -1 = -2", "fits 0 0 MAX = -2", "fits 0 0 MIN = -2", "fits 0 0 19 = 19",
                "fits 0 0 20 = -2", "fits 1 0 0 = -2", "fits 0 1 0 = -2", "fits -1 0 0 = -2", "fits 0 -1 0 = -2", "fits 2 0 0 = -2", "fits 0 2 0 = -2");
        Asked y = Asked.on("person 1;").log("not 1;").asks("fits 0 0 0 = -2", "fits 0 0 1 = -2", "fits 0 0 2 = -2", "fits 0 0 10 = -2");
        y.log("not 0;").asks("fits 0 1 0 = 0", "fits 0 1 1 = N", "fits 0 1 2 = N", "fits 0 1 10 = -2");
        // one that is not there, behind others that are
        Asked.on("person 1;person 1;").log("knows 0;not 1;not 2;").asks("fits 0 0 0 = -2");
        Asked.on("").log("not 0;").asks("fits 0 0 0 = -2");
        Asked.on("").log("").asks("fits 0 0 0 = 0", "fits 0 0 10 = -2");
        Asked.on(DEAF).log("knows 5;").asks("fits 0 0 0 = 10", "fits 0 0 10 = 50");
        new Asked().log("").asks("fits 0 0 0 = -2");
        Asked.on("").asks("fits 0 0 0 = -2");
        // each LOG in each LIBRARY
        Asked two = Asked.on("person 1;").library("person 1;person 1;").log("knows 0;").log("knows 1;");
        two.asks("fits 0 0 0 = 10", "fits 0 1 0 = -2", "fits 1 0 0 = 10", "fits 1 1 10 = 10", "fits 1 0 10 = 0");
    }

    private static void oddsAre(Asked x, int person, int top, int bottom) {
        x.asks("odds 0 0 " + person + " false = " + top, "odds 0 0 " + person + " true = " + bottom);
    }

    private static void odds() {
        Sentence.says("By a LOG in a LIBRARY: ODDS of a PERSON: of all that FIT, all being alike, how likely he KNOWS it, a fraction in least terms");
        Asked row = Asked.on(ROW).log("knows 0;");
        oddsAre(row, 0, 1, 1);
        oddsAre(row, 1, 9, 10);
        oddsAre(row, 2, 4, 5);
        oddsAre(row, 5, 1, 2);
        oddsAre(Asked.on(DEAF).log(""), 3, 1, 6);
        oddsAre(Asked.on(DEAF).log("not 3;"), 3, 0, 1);
        oddsAre(Asked.on(DEAF).log("not 3;"), 0, 1, 5);
        oddsAre(Asked.on("person 1;").log(""), 0, 1, 1);
        oddsAre(Asked.on(ROW).log("knows 0;not 1;"), 0, 1, 1);
        oddsAre(Asked.on(ROW).log("knows 0;not 1;"), 5, 0, 1);
        Sentence.says("ODDS of a PERSON, N, or (under) D. NONE: nothing FITS, as -2 of fits(), or there is none such (of any).");
        oddsAre(row, 6, NONE, NONE);
        oddsAre(row, -1, NONE, NONE);
        oddsAre(row, 32, NONE, NONE);
        oddsAre(row, Integer.MAX_VALUE, NONE, NONE);
        oddsAre(row, Integer.MIN_VALUE, NONE, NONE);
        oddsAre(Asked.on(ROW).log("knows 0;not 0;"), 0, NONE, NONE);
        oddsAre(Asked.on("").log(""), 0, NONE, NONE);
        oddsAre(Asked.on("person 1;").log("not 1;"), 0, NONE, NONE);
        oddsAre(Asked.on("person 1;"), 0, NONE, NONE);
        oddsAre(new Asked().log(""), 0, NONE, NONE);
        row.asks("odds 1 0 0 false = N", "odds 0 1 0 true = N", "odds -1 0 0 false = N", "odds 0 -1 0 true = N");
        // each LOG in each LIBRARY
        Asked two = Asked.on("person 1;").library(ROW).log("knows 0;").log("knows 0;not 5;");
        two.asks("odds 0 0 0 false = 1", "odds 0 1 0 false = N", "odds 1 0 1 false = 9", "odds 1 0 1 true = 10", "odds 1 1 1 false = 4", "odds 1 1 1 true = 5", "odds 0 0 1 false = N");
    }

    private static void ago(Asked x, int least, int most) {
        x.asks("ago 0 0 false = " + least, "ago 0 0 true = " + most);
    }

    private static void ago() {
        Sentence.says("LEAST, MOST: the fewest, the most days ago.");
        ago(Asked.on(ROW).log(""), 0, 9);
        ago(Asked.on(ROW).log("knows 0;knows 5;"), 5, 9);
        ago(Asked.on(ROW).log("knows 0;not 5;"), 0, 4);
        ago(Asked.on(ROW).log("knows 0;not 1;"), 0, 0);
        ago(Asked.on(ROW).log("knows 0;knows 4;not 5;"), 4, 4);
        // over all PEOPLE: 2, 11, 20
        ago(Asked.on(ROW).log("knows 2;not 3;"), 0, 2);
        ago(Asked.on(ROW).log("knows 2;knows 1;not 3;"), 1, 2);
        Sentence.says("LEAST, or (most) MOST. NONE as odds().");
        ago(Asked.on(ROW).log("knows 0;not 0;"), NONE, NONE);
        ago(Asked.on("").log(""), NONE, NONE);
        ago(Asked.on("person 1;").log("not 1;"), NONE, NONE);
        ago(Asked.on("person 1;"), NONE, NONE);
        ago(new Asked().log(""), NONE, NONE);
        Asked.on(ROW).log("").asks("ago 1 0 false = N", "ago 0 1 true = N", "ago -1 0 false = N", "ago 0 -1 true = N");
        Asked.on("person 1;").library(ROW).log("knows 0;").log("knows 5;knows 3;").asks("ago 0 0 false = 0", "ago 0 0 true = 9", "ago 0 1 false = N", "ago 1 0 true = 9", "ago 1 1 false = 2", "ago 1 1 true = 9");
    }

    // ---- RUMOUR and what NEWS do

    private static void rumour() {
        Sentence.says("RUMOUR of a PERSON, n days, 0 .. 20: he alone has just heard something, and it is told on and forgotten as by day: who KNOWS it behind n days (bits)");
        Asked row = Asked.on(ROW);
        Asked ring = Asked.on(RING);
        for (int n = 0; n <= 20; n++) {
            row.asks("rumour 0 0 " + n + " = " + (n <= 5 ? 1 << n : 0));
            ring.asks("rumour 0 2 " + n + " = " + (1 << (n + 2) % 6));
        }
        for (int memory = 1; memory <= 9; memory++) {
            Asked one = Asked.on("person " + memory + ";");
            one.asks("rumour 0 0 0 = 1", "rumour 0 0 " + (memory - 1) + " = 1", "rumour 0 0 " + memory + " = 0", "rumour 0 0 N = " + memory);
        }
        // who forgets it may hear it again, but not on that day
        Asked two = Asked.on("person 1;person 3;hears 0 1;");
        two.asks("rumour 0 1 0 = 2", "rumour 0 1 1 = 3", "rumour 0 1 2 = 2", "rumour 0 1 3 = 1", "rumour 0 1 4 = 0", "rumour 0 1 N = 4", "rumour 0 0 1 = 0");
        // without CHAPTERS, and with, whatever is told in a YEAR
        Asked.on("person 2;chapter 1 0;").year("read 0;tell 0 0;").asks("rumour 0 0 1 = 1", "rumour 0 0 2 = 0", "state 0 0 2 20 = 1");
    }

    private static void dies() {
        Sentence.says("DIES: the day, 99 at most, behind which nobody does.");
        Asked.on(ROW).asks("rumour 0 0 N = 6", "rumour 0 5 N = 1", "rumour 0 3 N = 3");
        Asked.on(RING).asks("rumour 0 0 N = N");
        Asked.on("person 9;person 9;hears 1 0;").asks("rumour 0 0 N = 10", "rumour 0 1 N = 9");
        Asked.on("person 1;person 1;hears 0 1;hears 1 0;").asks("rumour 0 0 N = N");
        String late = "person 4;person 2;person 3;person 4;person 4;person 7;hears 0 1;hears 1 0;hears 1 3;hears 1 5;hears 2 1;hears 2 3;hears 3 1;hears 3 4;hears 3 5;hears 4 0;hears 4 1;hears 4 5;hears 5 1;";
        Asked.on(late).asks("rumour 0 5 N = 99");
        String later = "person 4;person 2;person 8;person 4;person 4;person 7;hears 0 1;hears 1 0;hears 1 3;hears 1 5;hears 2 1;hears 2 3;hears 3 1;hears 3 4;hears 3 5;hears 4 1;hears 4 5;hears 5 1;hears 5 3;";
        Asked.on(later).asks("rumour 0 5 N = N");
        Sentence.says("RUMOUR (bits), or (n NONE) DIES (NONE: somebody KNOWS it behind 99 days). -2: another n, or there is none such (of either).");
        Asked.on("person 1;").asks("rumour 0 0 20 = 0", "rumour 0 0 21 = -2", "rumour 0 0 -2 = -2", "rumour 0 0 MAX = -2", "rumour 0 0 MIN = -2", "rumour 0 1 0 = -2", "rumour 0 1 N = -2", "rumour 0 32 0 = -2", "rumour 0 -1 0 = -2",
                "rumour 0 -1 N = -2", "rumour 1 0 0 = -2", "rumour 1 0 N = -2", "rumour -1 0 N = -2", "rumour MAX MIN 0 = -2");
        Asked.on("").asks("rumour 0 0 0 = -2", "rumour 0 0 N = -2");
        new Asked().asks("rumour 0 0 0 = -2", "rumour 0 0 N = -2");
    }

    private static void between() {
        Sentence.says("BETWEEN two PEOPLE: the fewest days by which NEWS come from the one to the other (0: to oneself).");
        Asked row = Asked.on(ROW);
        Asked ring = Asked.on(RING);
        for (int a = 0; a < 6; a++) {
            for (int b = 0; b < 6; b++) {
                row.asks("between 0 " + a + " " + b + " = " + (b < a ? NONE : b - a));
                ring.asks("between 0 " + a + " " + b + " = " + Math.floorMod(b - a, 6));
            }
        }
        // by the shorter way
        Asked.on(RING + "hears 5 0;").asks("between 0 0 5 = 1", "between 0 0 4 = 4", "between 0 5 4 = 5");
        Sentence.says("BETWEEN. NONE: never, or there is none such (of any).");
        row.asks("between 0 1 0 = N", "between 0 6 0 = N", "between 0 0 6 = N", "between 0 6 6 = N", "between 0 -1 0 = N", "between 0 0 -1 = N", "between 0 -1 -1 = N", "between 0 MAX MAX = N", "between 0 MIN MIN = N",
                "between 0 32 0 = N", "between 0 0 32 = N", "between 0 32 32 = N", "between 0 -32 0 = N",
                "between 1 0 0 = N", "between -1 0 0 = N");
        Asked.on("").asks("between 0 0 0 = N");
        Asked.on("person 1;").asks("between 0 0 0 = 0", "between 0 0 1 = N", "between 0 1 1 = N");
        new Asked().asks("between 0 0 0 = N");
    }

    private static void centre(String library, int person, int days) {
        Asked.on(library).asks("centre 0 false = " + person, "centre 0 true = " + days);
    }

    private static void centre() {
        Sentence.says("CENTRE: the PERSON from whom NEWS come to all soonest, of several the least; how many days.");
        centre("person 1;", 0, 0);
        centre(ROW, 0, 5);
        centre(RING, 0, 5);
        centre(RING + "hears 1 5;", 2, 4);
        centre("person 1;person 1;person 1;hears 0 2;hears 1 2;", 2, 1);
        centre("person 1;person 1;hears 0 1;hears 1 0;", 0, 1);
        centre("person 1;person 1;person 1;hears 1 0;hears 2 1;hears 0 1;", 1, 1);
        centre("person 1;person 1;person 1;hears 0 1;hears 0 2;hears 1 2;hears 2 1;", 1, 1);
        Sentence.says("CENTRE, or (days) how many days. NONE: from nobody to all, no PEOPLE, or there is none such.");
        centre("", NONE, NONE);
        centre("chapter 1 0;", NONE, NONE);
        centre(DEAF, NONE, NONE);
        centre("person 1;person 1;", NONE, NONE);
        centre("person 1;person 1;person 1;hears 2 0;hears 2 1;", NONE, NONE);
        Asked.on("person 1;").asks("centre 1 false = N", "centre 1 true = N", "centre -1 true = N", "centre MAX false = N");
        new Asked().asks("centre 0 false = N", "centre 0 true = N");
    }

    private static void loss(Asked x, int person, int other, int many) {
        x.asks("loss 0 " + person + " false = " + other, "loss 0 " + person + " true = " + many);
    }

    private static void loss() {
        Sentence.says("LOSS of a PERSON: the other one without whom NEWS of this one come to fewest others in 9 days, of several the least; to how many.");
        Asked row = Asked.on(ROW);
        loss(row, 0, 1, 0);
        loss(row, 1, 2, 0);
        loss(row, 4, 5, 0);
        // they come to nobody, whoever is not there
        loss(row, 5, 0, 0);
        loss(Asked.on(DEAF), 0, 1, 0);
        loss(Asked.on(DEAF), 1, 0, 0);
        Asked ring = Asked.on(RING);
        loss(ring, 5, 0, 0);
        loss(ring, 0, 1, 0);
        // by each of them to all others but him
        Asked all = Asked.on("person 1;person 1;person 1;person 1;hears 1 0;hears 2 0;hears 3 0;");
        loss(all, 0, 1, 2);
        loss(all, 3, 0, 0);
        Asked fork = Asked.on("person 1;person 1;person 1;person 1;person 1;hears 1 0;hears 2 0;hears 3 2;hears 4 3;");
        loss(fork, 0, 2, 1);
        loss(fork, 2, 3, 0);
        // two ways: without the one they go the other
        loss(Asked.on("person 1;person 1;person 1;person 1;hears 1 0;hears 2 0;hears 3 1;hears 3 2;"), 0, 1, 2);
        Sentence.says("LOSS, or (many) to how many. NONE: there is no other one, or there is none such (of either).");
        loss(Asked.on("person 1;"), 0, NONE, NONE);
        loss(Asked.on("person 1;person 1;"), 0, 1, 0);
        loss(Asked.on("person 1;person 1;"), 1, 0, 0);
        loss(Asked.on(""), 0, NONE, NONE);
        loss(row, 6, NONE, NONE);
        loss(row, -1, NONE, NONE);
        loss(row, 32, NONE, NONE);
        loss(row, Integer.MAX_VALUE, NONE, NONE);
        loss(row, Integer.MIN_VALUE, NONE, NONE);
        loss(new Asked(), 0, NONE, NONE);
        row.asks("loss 1 0 false = N", "loss 1 0 true = N", "loss -1 0 true = N");
    }

    private static void manyCalls() {
        Sentence.says("An object is used for at most 512 calls after it has been made");
        OneReader x = new OneReader();
        int calls = 0;
        for (int i = 0; i < 25; i++) {
            Telling.tape(x, ROW);
            Sentence.due("text " + i, x.text(0, i == 0 ? NONE : 0), 0);
            calls += Telling.feeds(ROW) + 3;
        }
        while (calls < 511) {
            Sentence.due("news", x.news(0, 0, 9), 63);
            calls++;
        }
        Sentence.due("the 512th call", x.rumour(0, 0, NONE), 6);
    }
}
