import java.util.Arrays;

/** A library with one reader: ../shared/DOC.md says what each call answers. */
public final class OneReader {
    public static final int NONE = -1;

    private static final int NO_SUCH = -2;
    private static final int NO_TASTE = -99;

    private static final int MOST_BYTES = 600;
    private static final int FED_BYTES = 20;
    private static final int MOST_CHAPTERS = 8;
    private static final int MOST_PEOPLE = 6;
    private static final int MOST_DEEDS = 40;
    private static final int MOST_FACTS = 8;
    private static final int MOST_TEXTS = 2;
    private static final int TOPICS = 6;
    private static final int MOST_LIKED = 9;
    private static final int MOST_HOURS = 9;
    private static final int MOST_MEMORY = 9;
    private static final int MOST_LAMP = 12;
    private static final int CHAPTER_SETS = 256;
    private static final int IMAGES = 3;

    private static final int LIBRARIES = 0;
    private static final int YEARS = 1;
    private static final int LOGS = 2;
    private static final int SORTS = 3;

    private static final int READ = 0;
    private static final int SKIP = 1;
    private static final int PIE = 2;
    private static final int TELL = 3;
    private static final int COLD = 4;
    private static final int DAY = 5;
    private static final int CHAPTER = 6;
    private static final int LEANS = 7;
    private static final int LIKES = 8;
    private static final int LAMP = 9;
    private static final int PERSON = 10;
    private static final int HEARS = 11;
    private static final int KNOWS = 12;
    private static final int NOT = 13;

    private static final int NO_GOING_ON = 1;
    private static final int WRONG_NUMBER = 2;
    private static final int TOO_MANY = 3;
    private static final int NOT_THERE = 4;

    private static final int ALONE_DAYS = 20;
    private static final int LAST_DAY = 99;
    private static final int NEWS_DAYS = 9;
    private static final int MOST_PLAN_HOURS = 72;
    private static final int MOST_DRAWN = 60;
    private static final int BAIT_PIES = 4;
    private static final int FEAST_PIES = 3;
    private static final int MOST_PIE_ROWS = 1000;
    private static final int MOST_PARTS = 4;
    private static final int MOST_FITS = 60;

    private final Told told = new Told();
    private final Told[] images = new Told[IMAGES];
    private final boolean[] imageTaken = new boolean[IMAGES];
    private final Parser parser = new Parser();
    private final Life life = new Life();
    private final Alone alone = new Alone();
    private final Plans plans = new Plans();
    private final Lessons parts = new Lessons();
    private final Guesses guesses = new Guesses();

    public OneReader() {
        for (int k = 0; k < IMAGES; k++) {
            images[k] = new Told();
        }
    }

    public int feed(int a, int b, int c, int d, int e) {
        if (told.length > MOST_BYTES - FED_BYTES) {
            return NONE;
        }
        told.addNumber(a);
        told.addNumber(b);
        told.addNumber(c);
        told.addNumber(d);
        told.addNumber(e);
        return told.length;
    }

    public int end(int n) {
        if (!isWithin(n, 0, told.length)) {
            return NONE;
        }
        told.length = n;
        return n;
    }

    public int text(int sort, int at) {
        // the tape is taken whatever comes of it; only the reading stays away behind -2
        int length = told.length;
        told.length = 0;
        told.faultFound = 0;
        told.faultPlace = NONE;
        if (!isWithin(sort, 0, SORTS - 1)) {
            return NO_SUCH;
        }
        int place = at == NONE ? told.many[sort] : at;
        int last = at == NONE ? MOST_TEXTS - 1 : told.many[sort] - 1;
        if (!isWithin(place, 0, last)) {
            return NO_SUCH;
        }
        parser.parse(sort, told.tape, length);
        told.faultFound = parser.faultFound;
        told.faultPlace = parser.faultPlace;
        if (told.faultFound != 0) {
            return NONE;
        }
        told.keep(sort, place, parser);
        return place;
    }

    public int fault(int what) {
        switch (what) {
            case 0:
                return told.faultFound;
            case 1:
                return told.faultPlace;
            default:
                return NONE;
        }
    }

    public int library(int library, int what) {
        Library asked = told.libraryAt(library);
        return asked == null ? NONE : asked.answer(what);
    }

    public int deed(int year, int k, int what) {
        Year asked = told.yearAt(year);
        return asked == null ? NO_SUCH : asked.answer(k, what);
    }

    public int till(int library, int year) {
        Library place = told.libraryAt(library);
        Year lived = told.yearAt(year);
        if (place == null || lived == null) {
            return NONE;
        }
        return life.live(place, lived, lived.deeds);
    }

    public int state(int library, int year, int n, int what) {
        Library place = told.libraryAt(library);
        Year lived = told.yearAt(year);
        if (place == null || lived == null || !isWithin(n, 0, lived.deeds)) {
            return NO_SUCH;
        }
        return life.live(place, lived, n) < n ? NO_SUCH : life.answer(what);
    }

    public int himself(int library, int n, int k) {
        Library asked = told.libraryAt(library);
        if (asked == null || !isWithin(n, 0, ALONE_DAYS)) {
            return NONE;
        }
        alone.readOn(asked, n, 0);
        return countOrAt(alone.row, alone.many, k);
    }

    public int bait(int library, int chapter, int n, int k) {
        Library asked = told.libraryAt(library);
        if (asked == null || !asked.hasChapter(chapter) || !isWithin(n, 0, ALONE_DAYS)) {
            return NONE;
        }
        int pies = alone.fewestPies(asked, chapter, n);
        return pies == NONE ? NONE : countOrAt(alone.pies, pies, k);
    }

    public int order(int library, int h, boolean which) {
        Library asked = told.libraryAt(library);
        if (asked == null || !isWithin(h, 0, MOST_PLAN_HOURS)) {
            return NONE;
        }
        int chosen = plans.largestOrder(asked, h);
        return which ? chosen : Integer.bitCount(chosen);
    }

    public int news(int library, int person, int n) {
        Library asked = told.libraryAt(library);
        if (asked == null || !asked.hasPerson(person) || !isWithin(n, 0, NEWS_DAYS)) {
            return NONE;
        }
        return asked.toldOn(1 << person, n, asked.allPeople());
    }

    public int tellers(int library, int n, boolean who) {
        Library asked = told.libraryAt(library);
        if (asked == null || !isWithin(n, 0, NEWS_DAYS)) {
            return NONE;
        }
        int chosen = asked.fewestTellers(n);
        return who ? chosen : Integer.bitCount(chosen);
    }

    public int game(int library, int h, boolean first) {
        Library asked = told.libraryAt(library);
        if (asked == null || !isWithin(h, 0, MOST_PLAN_HOURS)) {
            return NO_SUCH;
        }
        int chapter = plans.winningChapter(asked, h);
        if (first) {
            return chapter;
        }
        return chapter == NONE ? 0 : 1;
    }

    public long colds(int library, int chapters, int n, int p, boolean under) {
        Library asked = told.libraryAt(library);
        if (asked == null || !isWithin(chapters, 0, asked.allChapters())
                || !isWithin(n, 1, 9) || !isWithin(p, 0, 10)) {
            return NONE;
        }
        int needed = asked.lampDays(chapters);
        long likely = 0;
        for (int well = needed; well <= n; well++) {
            likely += choices(n, well) * power(10 - p, well) * power(p, n - well);
        }
        return leastTerms(likely, power(10, n), under);
    }

    public int fact(int log, int k, int what) {
        Log asked = told.logAt(log);
        return asked == null ? NO_SUCH : asked.answer(k, what);
    }

    public int fits(int library, int log, int what) {
        if (!findGuesses(library, log)) {
            return NO_SUCH;
        }
        switch (what) {
            case 0:
                return guesses.many;
            case 1:
                return guesses.surePerson();
            case 2:
                return guesses.personToAsk();
            default:
                return what >= 10 && what - 10 < guesses.many ? guesses.fitting[what - 10] : NO_SUCH;
        }
    }

    public int drawn(int library, int seed, int n, int what) {
        Library asked = told.libraryAt(library);
        if (asked == null || !isWithin(n, 0, MOST_DRAWN)) {
            return NO_SUCH;
        }
        life.liveDrawn(asked, seed, n);
        return life.answer(what);
    }

    public int shelf(int library, int what) {
        Library asked = told.libraryAt(library);
        if (asked == null) {
            return NO_SUCH;
        }
        switch (what) {
            case 0:
                return alone.finish(asked);
            case 1:
                return alone.neverRead(asked);
            case 2:
                return asked.keystone();
            case 3:
                return asked.holdsUp(asked.keystone());
            case 4:
                return plans.fewestDays(asked, asked.allChapters(), asked.lamp);
            case 5:
                return plans.rows(asked);
            case 6:
                return asked.halvesApart(asked.half());
            case 7:
                return asked.half();
            default:
                return what >= 10 && asked.hasChapter(what - 10) ? asked.under(what - 10) : NO_SUCH;
        }
    }

    public int lessons(int library, int n, int k) {
        Library asked = told.libraryAt(library);
        if (asked == null || !isWithin(n, 1, MOST_PARTS)) {
            return NONE;
        }
        int most = parts.split(asked, n);
        if (k == NONE) {
            return most;
        }
        return isWithin(k, 0, n - 1) ? parts.best[k] : NONE;
    }

    public int feast(int library, int n, int m, int k) {
        Library asked = told.libraryAt(library);
        if (asked == null || !isWithin(n, 0, ALONE_DAYS) || !isWithin(m, 0, FEAST_PIES)) {
            return NONE;
        }
        int most = alone.mostRead(asked, n, m);
        if (k == NONE) {
            return most;
        }
        return isWithin(k, 0, m - 1) ? alone.bestPies[k] : NONE;
    }

    public int sweet(int library, int topic, int n) {
        Library asked = told.libraryAt(library);
        if (asked == null || !isWithin(topic, 0, TOPICS - 1) || !isWithin(n, 0, ALONE_DAYS)) {
            return NO_TASTE;
        }
        return alone.moreByPie(asked, topic, n);
    }

    public int ladder(int library, int k) {
        Library asked = told.libraryAt(library);
        if (asked == null) {
            return NONE;
        }
        plans.findLadder(asked);
        return countOrAt(plans.ladderRow, plans.ladderLength, k);
    }

    public int dim(int library, int n) {
        Library asked = told.libraryAt(library);
        if (asked == null || !isWithin(n, 1, ALONE_DAYS)) {
            return NONE;
        }
        for (int lamp = 1; lamp <= MOST_LAMP; lamp++) {
            int days = plans.fewestDays(asked, asked.allChapters(), lamp);
            if (days != NONE && days <= n) {
                return lamp;
            }
        }
        return NONE;
    }

    public int ban(int library, boolean days) {
        Library asked = told.libraryAt(library);
        if (asked == null) {
            return NO_SUCH;
        }
        plans.findBan(asked);
        return days ? plans.banDays : plans.banned;
    }

    public long share(int library, int topic, boolean under) {
        Library asked = told.libraryAt(library);
        if (asked == null || asked.chapters == 0 || !isWithin(topic, 0, TOPICS - 1)) {
            return NONE;
        }
        int part = asked.hoursOf(asked.chaptersOfTopic(topic));
        return leastTerms(part, asked.hoursOf(asked.allChapters()), under);
    }

    public int rumour(int library, int person, int n) {
        Library asked = told.libraryAt(library);
        if (asked == null || !asked.hasPerson(person)) {
            return NO_SUCH;
        }
        if (n == NONE) {
            return life.rumourDies(asked, person);
        }
        return isWithin(n, 0, ALONE_DAYS) ? life.rumourBehind(asked, person, n) : NO_SUCH;
    }

    public int between(int library, int a, int b) {
        Library asked = told.libraryAt(library);
        if (asked == null || !asked.hasPerson(a) || !asked.hasPerson(b)) {
            return NONE;
        }
        return asked.daysUntil(1 << a, 1 << b);
    }

    public int centre(int library, boolean days) {
        Library asked = told.libraryAt(library);
        if (asked == null) {
            return NONE;
        }
        int person = asked.centralPerson();
        if (!days || person == NONE) {
            return person;
        }
        return asked.daysUntil(1 << person, asked.allPeople());
    }

    public int loss(int library, int person, boolean many) {
        Library asked = told.libraryAt(library);
        if (asked == null || !asked.hasPerson(person)) {
            return NONE;
        }
        int other = asked.worstLoss(person);
        if (!many || other == NONE) {
            return other;
        }
        return asked.reachedWithout(person, other);
    }

    public long waits(int library, int chapters, int p, boolean under) {
        Library asked = told.libraryAt(library);
        if (asked == null || !isWithin(chapters, 0, asked.allChapters()) || !isWithin(p, 0, 9)) {
            return NONE;
        }
        return leastTerms(10L * asked.lampDays(chapters), 10 - p, under);
    }

    public int after(int library, int year, int what) {
        Library place = told.libraryAt(library);
        Year lived = told.yearAt(year);
        if (place == null || lived == null) {
            return NO_SUCH;
        }
        life.live(place, lived, lived.deeds);
        return life.lookBack(what);
    }

    public long odds(int library, int log, int person, boolean under) {
        if (!findGuesses(library, log) || guesses.many == 0) {
            return NONE;
        }
        Library asked = told.libraryAt(library);
        if (asked == null || !asked.hasPerson(person)) {
            return NONE;
        }
        return leastTerms(guesses.knownIn(person), guesses.many, under);
    }

    public int ago(int library, int log, boolean most) {
        if (!findGuesses(library, log) || guesses.many == 0) {
            return NONE;
        }
        return most ? guesses.mostDays() : guesses.leastDays();
    }

    public int count(int sort) {
        return isWithin(sort, 0, SORTS - 1) ? told.many[sort] : NO_SUCH;
    }

    public boolean image(int k) {
        if (!isWithin(k, 0, IMAGES - 1)) {
            return false;
        }
        images[k].copyFrom(told);
        imageTaken[k] = true;
        return true;
    }

    public boolean again(int k) {
        if (!isWithin(k, 0, IMAGES - 1) || !imageTaken[k]) {
            return false;
        }
        told.copyFrom(images[k]);
        return true;
    }

    private boolean findGuesses(int library, int log) {
        Library place = told.libraryAt(library);
        Log kept = told.logAt(log);
        return place != null && kept != null && guesses.find(place, kept);
    }

    private static boolean isWithin(int number, int least, int most) {
        return number >= least && number <= most;
    }

    private static boolean hasBit(int bits, int k) {
        return (bits >> k & 1) != 0;
    }

    /** How many (k NONE), or the k-th of a row; NONE if it has not so many. */
    private static int countOrAt(int[] row, int many, int k) {
        if (k == NONE) {
            return many;
        }
        return k >= 0 && k < many && k < row.length ? row[k] : NONE;
    }

    private static long power(long base, int times) {
        long product = 1;
        for (int i = 0; i < times; i++) {
            product *= base;
        }
        return product;
    }

    private static long choices(int n, int k) {
        long ways = 1;
        for (int i = 1; i <= k; i++) {
            ways = ways * (n - k + i) / i;
        }
        return ways;
    }

    private static long leastTerms(long top, long bottom, boolean under) {
        long whole = bottom;
        long rest = top;
        // Euclid on numbers up to a thousand million takes fewer than 50 steps
        for (int i = 0; i < 100 && rest != 0; i++) {
            long next = whole % rest;
            whole = rest;
            rest = next;
        }
        if (whole == 0) {
            return NONE;
        }
        return under ? bottom / whole : top / whole;
    }

    /** All that an image keeps: the tape, the FAULT, and the texts that were taken. */
    static final class Told {
        final int[] tape = new int[MOST_BYTES];
        final int[] many = new int[SORTS];
        final Library[] libraries = new Library[MOST_TEXTS];
        final Year[] years = new Year[MOST_TEXTS];
        final Log[] logs = new Log[MOST_TEXTS];
        int length;
        int faultFound;
        int faultPlace = NONE;

        Told() {
            for (int i = 0; i < MOST_TEXTS; i++) {
                libraries[i] = new Library();
                years[i] = new Year();
                logs[i] = new Log();
            }
        }

        void addNumber(int number) {
            for (int shift = 24; shift >= 0 && length < MOST_BYTES; shift -= 8) {
                tape[length] = number >>> shift & 255;
                length++;
            }
        }

        Library libraryAt(int k) {
            return isWithin(k, 0, many[LIBRARIES] - 1) ? libraries[k] : null;
        }

        Year yearAt(int k) {
            return isWithin(k, 0, many[YEARS] - 1) ? years[k] : null;
        }

        Log logAt(int k) {
            return isWithin(k, 0, many[LOGS] - 1) ? logs[k] : null;
        }

        void keep(int sort, int place, Parser parser) {
            if (!isWithin(place, 0, MOST_TEXTS - 1) || !isWithin(sort, 0, SORTS - 1)) {
                return;
            }
            if (sort == LIBRARIES) {
                libraries[place].copyFrom(parser.library);
            } else if (sort == YEARS) {
                years[place].copyFrom(parser.year);
            } else {
                logs[place].copyFrom(parser.log);
            }
            many[sort] = Math.max(many[sort], place + 1);
        }

        void copyFrom(Told other) {
            System.arraycopy(other.tape, 0, tape, 0, MOST_BYTES);
            System.arraycopy(other.many, 0, many, 0, SORTS);
            for (int i = 0; i < MOST_TEXTS; i++) {
                libraries[i].copyFrom(other.libraries[i]);
                years[i].copyFrom(other.years[i]);
                logs[i].copyFrom(other.logs[i]);
            }
            length = other.length;
            faultFound = other.faultFound;
            faultPlace = other.faultPlace;
        }
    }

    /** A LIBRARY, and what can be said of it without living in it. */
    static final class Library {
        final int[] hours = new int[MOST_CHAPTERS];
        final int[] topics = new int[MOST_CHAPTERS];
        final int[] leans = new int[MOST_CHAPTERS];
        final int[] likes = new int[TOPICS];
        final int[] memory = new int[MOST_PEOPLE];
        final int[] hears = new int[MOST_PEOPLE];
        int chapters;
        int people;
        int lamp;

        Library() {
            makeEmpty();
        }

        void makeEmpty() {
            Arrays.fill(hours, 0);
            Arrays.fill(topics, 0);
            Arrays.fill(leans, 0);
            Arrays.fill(likes, 5);
            Arrays.fill(memory, 0);
            Arrays.fill(hears, 0);
            chapters = 0;
            people = 0;
            lamp = 6;
        }

        void copyFrom(Library other) {
            System.arraycopy(other.hours, 0, hours, 0, MOST_CHAPTERS);
            System.arraycopy(other.topics, 0, topics, 0, MOST_CHAPTERS);
            System.arraycopy(other.leans, 0, leans, 0, MOST_CHAPTERS);
            System.arraycopy(other.likes, 0, likes, 0, TOPICS);
            System.arraycopy(other.memory, 0, memory, 0, MOST_PEOPLE);
            System.arraycopy(other.hears, 0, hears, 0, MOST_PEOPLE);
            chapters = other.chapters;
            people = other.people;
            lamp = other.lamp;
        }

        boolean hasChapter(int c) {
            return c >= 0 && c < chapters;
        }

        boolean hasPerson(int p) {
            return p >= 0 && p < people;
        }

        int allChapters() {
            return (1 << chapters) - 1;
        }

        int allPeople() {
            return (1 << people) - 1;
        }

        int answer(int what) {
            int k = what < 0 ? NONE : what % 10;
            switch (what < 0 ? NONE : what / 10) {
                case 0:
                    return sizes(k);
                case 1:
                    return hasChapter(k) ? hours[k] : NONE;
                case 2:
                    return hasChapter(k) ? topics[k] : NONE;
                case 3:
                    return hasChapter(k) ? leans[k] : NONE;
                case 4:
                    return isWithin(k, 0, TOPICS - 1) ? likes[k] : NONE;
                case 5:
                    return hasPerson(k) ? memory[k] : NONE;
                case 6:
                    return hasPerson(k) ? hears[k] : NONE;
                default:
                    return NONE;
            }
        }

        private int sizes(int what) {
            switch (what) {
                case 0:
                    return chapters;
                case 1:
                    return people;
                case 2:
                    return lamp;
                default:
                    return NONE;
            }
        }

        /** CHAPTERS that MAY be read (bits). */
        int open(int done) {
            int bits = 0;
            for (int c = 0; c < chapters; c++) {
                if ((done >> c & 1) == 0 && (leans[c] & ~done) == 0) {
                    bits |= 1 << c;
                }
            }
            return bits;
        }

        int hoursOf(int bits) {
            int sum = 0;
            for (int c = 0; c < chapters; c++) {
                if (hasBit(bits, c)) {
                    sum += hours[c];
                }
            }
            return sum;
        }

        /** On how many days without a cold all HOURS of some CHAPTERS are read. */
        int lampDays(int bits) {
            return lamp < 1 ? NONE : (hoursOf(bits) + lamp - 1) / lamp;
        }

        int chaptersOfTopic(int topic) {
            int bits = 0;
            for (int c = 0; c < chapters; c++) {
                if (topics[c] == topic) {
                    bits |= 1 << c;
                }
            }
            return bits;
        }

        int under(int chapter) {
            int bits = hasChapter(chapter) ? leans[chapter] : 0;
            // a CHAPTER leans on less numbers alone, so falling numbers miss none
            for (int c = chapter - 1; c >= 0; c--) {
                if (hasBit(bits, c)) {
                    bits |= leans[c];
                }
            }
            return bits;
        }

        /** A CHAPTER and all that it is UNDER (bits). */
        int standingOn(int chapter) {
            int bits = 1 << chapter;
            for (int c = chapter + 1; c < chapters; c++) {
                if ((leans[c] & bits) != 0) {
                    bits |= 1 << c;
                }
            }
            return bits;
        }

        int holdsUp(int chapter) {
            return hasChapter(chapter) ? Integer.bitCount(standingOn(chapter)) - 1 : NONE;
        }

        int keystone() {
            int best = NONE;
            for (int c = 0; c < chapters; c++) {
                if (best == NONE || holdsUp(c) > holdsUp(best)) {
                    best = c;
                }
            }
            return best;
        }

        int halvesApart(int bits) {
            return Math.abs(hoursOf(allChapters()) - 2 * hoursOf(bits));
        }

        int half() {
            int best = 0;
            int apart = halvesApart(0);
            // the sets without the last CHAPTER are those of the numbers below its bit
            for (int bits = 1; bits < 1 << chapters - 1 && chapters > 1; bits++) {
                int now = halvesApart(bits);
                if (now < apart) {
                    best = bits;
                    apart = now;
                }
            }
            return best;
        }

        /** Who KNOWS it behind some days, told on among some PEOPLE alone, nobody forgetting. */
        int toldOn(int knowing, int days, int among) {
            int bits = knowing;
            for (int day = 0; day < days; day++) {
                int next = bits;
                for (int p = 0; p < people; p++) {
                    if ((hears[p] & bits) != 0) {
                        next |= 1 << p;
                    }
                }
                bits = next & among;
            }
            return bits;
        }

        int fewestTellers(int days) {
            int all = allPeople();
            int best = all;
            for (int bits = 0; bits < all; bits++) {
                if (Integer.bitCount(bits) < Integer.bitCount(best) && toldOn(bits, days, all) == all) {
                    best = bits;
                }
            }
            return best;
        }

        /** In how many days NEWS come from some PEOPLE to all the others that are asked of. */
        int daysUntil(int from, int to) {
            int knowing = from;
            for (int days = 0; days <= MOST_PEOPLE; days++) {
                if ((to & ~knowing) == 0) {
                    return days;
                }
                knowing = toldOn(knowing, 1, allPeople());
            }
            return NONE;
        }

        int centralPerson() {
            int best = NONE;
            int fewest = MOST_PEOPLE + 1;
            for (int p = 0; p < people; p++) {
                int days = daysUntil(1 << p, allPeople());
                if (days != NONE && days < fewest) {
                    best = p;
                    fewest = days;
                }
            }
            return best;
        }

        int reachedWithout(int person, int missing) {
            int among = allPeople() & ~(1 << missing);
            return Integer.bitCount(toldOn(1 << person, NEWS_DAYS, among)) - 1;
        }

        int worstLoss(int person) {
            int best = NONE;
            int fewest = MOST_PEOPLE + 1;
            for (int p = 0; p < people; p++) {
                if (p != person && reachedWithout(person, p) < fewest) {
                    best = p;
                    fewest = reachedWithout(person, p);
                }
            }
            return best;
        }
    }

    /** A YEAR's text: DEEDS. */
    static final class Year {
        final int[] kinds = new int[MOST_DEEDS];
        final int[] firsts = new int[MOST_DEEDS];
        final int[] seconds = new int[MOST_DEEDS];
        int deeds;

        void add(int kind, int first, int second) {
            if (deeds >= MOST_DEEDS) {
                return;
            }
            kinds[deeds] = kind;
            firsts[deeds] = first;
            seconds[deeds] = second;
            deeds++;
        }

        void copyFrom(Year other) {
            System.arraycopy(other.kinds, 0, kinds, 0, MOST_DEEDS);
            System.arraycopy(other.firsts, 0, firsts, 0, MOST_DEEDS);
            System.arraycopy(other.seconds, 0, seconds, 0, MOST_DEEDS);
            deeds = other.deeds;
        }

        int answer(int k, int what) {
            if (k == NONE && what == 0) {
                return deeds;
            }
            if (!isWithin(k, 0, deeds - 1)) {
                return NO_SUCH;
            }
            switch (what) {
                case 0:
                    return kinds[k];
                case 1:
                    return firsts[k];
                case 2:
                    return seconds[k];
                default:
                    return NO_SUCH;
            }
        }
    }

    /** A LOG's text: FACTS. */
    static final class Log {
        final int[] kinds = new int[MOST_FACTS];
        final int[] persons = new int[MOST_FACTS];
        int facts;

        void add(int kind, int person) {
            if (facts >= MOST_FACTS) {
                return;
            }
            kinds[facts] = kind;
            persons[facts] = person;
            facts++;
        }

        void copyFrom(Log other) {
            System.arraycopy(other.kinds, 0, kinds, 0, MOST_FACTS);
            System.arraycopy(other.persons, 0, persons, 0, MOST_FACTS);
            facts = other.facts;
        }

        int answer(int k, int what) {
            if (k == NONE && what == 0) {
                return facts;
            }
            if (!isWithin(k, 0, facts - 1)) {
                return NO_SUCH;
            }
            switch (what) {
                case 0:
                    return kinds[k] - KNOWS;
                case 1:
                    return persons[k];
                default:
                    return NO_SUCH;
            }
        }

        boolean speaksOfOthersThan(Library library) {
            for (int k = 0; k < facts; k++) {
                if (!library.hasPerson(persons[k])) {
                    return true;
                }
            }
            return false;
        }

        boolean isSo(int knowing) {
            for (int k = 0; k < facts; k++) {
                if (hasBit(knowing, persons[k]) != (kinds[k] == KNOWS)) {
                    return false;
                }
            }
            return true;
        }
    }

    /** Cuts the tape into TOKENS. */
    static final class Scanner {
        private static final int END = 0;
        private static final int WORD = 1;
        private static final int NUMBER = 2;
        private static final int SEMICOLON = 3;
        private static final int NO_TOKEN = 4;

        private int[] tape = new int[0];
        private int length;
        private int at;
        int kind;
        int place;
        int value;

        void begin(int[] bytes, int many) {
            tape = bytes;
            length = Math.min(many, bytes.length);
            at = 0;
            next();
        }

        void next() {
            while (at < length && (tape[at] == 10 || tape[at] == 32)) {
                at++;
            }
            place = at;
            if (at >= length) {
                kind = END;
            } else if (isLetter(tape[at])) {
                takeWord();
            } else if (isDigit(tape[at])) {
                takeNumber();
            } else {
                kind = tape[at] == ';' ? SEMICOLON : NO_TOKEN;
                at++;
            }
        }

        private void takeWord() {
            while (at < length && isLetter(tape[at])) {
                at++;
            }
            kind = WORD;
        }

        private void takeNumber() {
            value = 0;
            while (at < length && isDigit(tape[at])) {
                // the value of a row that is no token is never asked for
                value = at - place < 2 ? 10 * value + tape[at] - '0' : value;
                at++;
            }
            kind = at - place <= 2 ? NUMBER : NO_TOKEN;
        }

        boolean isWord(String word) {
            if (kind != WORD || at - place != word.length()) {
                return false;
            }
            for (int i = 0; i < word.length(); i++) {
                if (tape[place + i] != word.charAt(i)) {
                    return false;
                }
            }
            return true;
        }

        private static boolean isLetter(int sign) {
            return sign >= 'a' && sign <= 'z';
        }

        private static boolean isDigit(int sign) {
            return sign >= '0' && sign <= '9';
        }
    }

    /** Reads one text into a LIBRARY, YEAR or LOG of its own, and finds its FAULT. */
    static final class Parser {
        final Library library = new Library();
        final Year year = new Year();
        final Log log = new Log();
        int faultFound;
        int faultPlace;
        private final Scanner scanner = new Scanner();
        private final int[] numbers = new int[2];
        private final int[] places = new int[2];
        private int wordPlace;
        private int chaptersToldOf;
        private int peopleToldOf;

        void parse(int sort, int[] tape, int length) {
            library.makeEmpty();
            year.deeds = 0;
            log.facts = 0;
            chaptersToldOf = 0;
            peopleToldOf = 0;
            faultFound = 0;
            faultPlace = NONE;
            scanner.begin(tape, length);
            for (int line = 0; line < MOST_BYTES && scanner.kind != Scanner.END; line++) {
                readLine(sort);
                if (faultFound == NO_GOING_ON) {
                    return;
                }
            }
            if (chaptersToldOf > library.chapters || peopleToldOf > library.people) {
                note(NOT_THERE, length);
            }
        }

        private void readLine(int sort) {
            int word = wordOf(sort);
            wordPlace = scanner.place;
            if (word == NONE) {
                breakOff();
                return;
            }
            int wanted = numbersBehind(word);
            for (int i = 0; i < 2; i++) {
                numbers[i] = NONE;
                if (i < wanted) {
                    scanner.next();
                    if (scanner.kind != Scanner.NUMBER) {
                        breakOff();
                        return;
                    }
                    numbers[i] = scanner.value;
                    places[i] = scanner.place;
                }
            }
            scanner.next();
            if (scanner.kind != Scanner.SEMICOLON) {
                breakOff();
                return;
            }
            takeLine(word);
            scanner.next();
        }

        /** This FAULT comes ahead of all others, wherever they are. */
        private void breakOff() {
            faultFound = NO_GOING_ON;
            faultPlace = scanner.place;
        }

        /** Lines are taken by their places, so the first FAULT that is noted is the first by place. */
        private void note(int fault, int place) {
            if (faultFound == 0) {
                faultFound = fault;
                faultPlace = place;
            }
        }

        private int wordOf(int sort) {
            switch (sort) {
                case LIBRARIES:
                    return libraryWord();
                case YEARS:
                    return yearWord();
                case LOGS:
                    return scanner.isWord("knows") ? KNOWS : scanner.isWord("not") ? NOT : NONE;
                default:
                    return NONE;
            }
        }

        private int libraryWord() {
            if (scanner.isWord("chapter")) {
                return CHAPTER;
            }
            if (scanner.isWord("leans")) {
                return LEANS;
            }
            if (scanner.isWord("likes")) {
                return LIKES;
            }
            if (scanner.isWord("lamp")) {
                return LAMP;
            }
            if (scanner.isWord("person")) {
                return PERSON;
            }
            return scanner.isWord("hears") ? HEARS : NONE;
        }

        private int yearWord() {
            if (scanner.isWord("read")) {
                return READ;
            }
            if (scanner.isWord("skip")) {
                return SKIP;
            }
            if (scanner.isWord("pie")) {
                return PIE;
            }
            if (scanner.isWord("tell")) {
                return TELL;
            }
            if (scanner.isWord("cold")) {
                return COLD;
            }
            return scanner.isWord("day") ? DAY : NONE;
        }

        private static int numbersBehind(int word) {
            switch (word) {
                case CHAPTER:
                case LEANS:
                case LIKES:
                case HEARS:
                case TELL:
                    return 2;
                case COLD:
                case DAY:
                    return 0;
                default:
                    return 1;
            }
        }

        private void takeLine(int word) {
            switch (word) {
                case CHAPTER:
                    takeChapter();
                    break;
                case LEANS:
                    takeLeans();
                    break;
                case LIKES:
                    takeLikes();
                    break;
                case LAMP:
                    takeLamp();
                    break;
                case PERSON:
                    takePerson();
                    break;
                case HEARS:
                    takeHears();
                    break;
                case KNOWS:
                case NOT:
                    takeFact(word);
                    break;
                default:
                    takeDeed(word);
                    break;
            }
        }

        private void wantRoom(int many, int most) {
            if (many >= most) {
                note(TOO_MANY, wordPlace);
            }
        }

        private void wantNumber(int k, int least, int most) {
            if (!isWithin(numbers[k], least, most)) {
                note(WRONG_NUMBER, places[k]);
            }
        }

        private void takeChapter() {
            wantRoom(library.chapters, MOST_CHAPTERS);
            wantNumber(0, 1, MOST_HOURS);
            wantNumber(1, 0, TOPICS - 1);
            if (faultFound == 0) {
                library.hours[library.chapters] = numbers[0];
                library.topics[library.chapters] = numbers[1];
                library.chapters++;
            }
        }

        private void takeLeans() {
            wantNumber(0, 0, MOST_CHAPTERS - 1);
            wantNumber(1, 0, numbers[0] - 1);
            if (faultFound == 0) {
                library.leans[numbers[0]] |= 1 << numbers[1];
                chaptersToldOf = Math.max(chaptersToldOf, numbers[0] + 1);
            }
        }

        private void takeLikes() {
            wantNumber(0, 0, TOPICS - 1);
            wantNumber(1, 0, MOST_LIKED);
            if (faultFound == 0) {
                library.likes[numbers[0]] = numbers[1];
            }
        }

        private void takeLamp() {
            wantNumber(0, 1, MOST_LAMP);
            if (faultFound == 0) {
                library.lamp = numbers[0];
            }
        }

        private void takePerson() {
            wantRoom(library.people, MOST_PEOPLE);
            wantNumber(0, 1, MOST_MEMORY);
            if (faultFound == 0) {
                library.memory[library.people] = numbers[0];
                library.people++;
            }
        }

        private void takeHears() {
            wantNumber(0, 0, MOST_PEOPLE - 1);
            wantNumber(1, 0, MOST_PEOPLE - 1);
            if (numbers[0] == numbers[1]) {
                note(WRONG_NUMBER, places[1]);
            }
            if (faultFound == 0) {
                library.hears[numbers[0]] |= 1 << numbers[1];
                peopleToldOf = Math.max(peopleToldOf, Math.max(numbers[0], numbers[1]) + 1);
            }
        }

        private void takeDeed(int kind) {
            wantRoom(year.deeds, MOST_DEEDS);
            if (kind == PIE) {
                wantNumber(0, 0, TOPICS - 1);
            } else if (kind == READ || kind == SKIP || kind == TELL) {
                wantNumber(0, 0, MOST_CHAPTERS - 1);
            }
            if (kind == TELL) {
                wantNumber(1, 0, MOST_PEOPLE - 1);
            }
            if (faultFound == 0) {
                year.add(kind, numbers[0], numbers[1]);
            }
        }

        private void takeFact(int word) {
            wantRoom(log.facts, MOST_FACTS);
            wantNumber(0, 0, MOST_PEOPLE - 1);
            if (faultFound == 0) {
                log.add(word, numbers[0]);
            }
        }
    }

    /** A STATE of a YEAR in a LIBRARY, and what is to be said of the STATES ahead of it. */
    static final class Life {
        final int[] likes = new int[TOPICS];
        int read;
        private final int[] known = new int[MOST_PEOPLE * MOST_CHAPTERS];
        private Library library = new Library();
        private int day;
        private int skipped;
        private int left;
        private boolean hasCold;
        private int pies;
        private int forgot;
        private int gossip;
        private int mostKnown;
        private int firstRead;
        private int bored;
        private int drawnFrom;

        void begin(Library place) {
            library = place;
            System.arraycopy(place.likes, 0, likes, 0, TOPICS);
            Arrays.fill(known, NONE);
            day = 0;
            read = 0;
            skipped = 0;
            left = place.lamp;
            hasCold = false;
            pies = 0;
            forgot = 0;
            gossip = NONE;
            mostKnown = 0;
            firstRead = NONE;
            bored = 0;
        }

        /** Does the first n DEEDS as far as they can be: how many that are. */
        int live(Library place, Year year, int n) {
            begin(place);
            noticeState();
            for (int k = 0; k < n && k < year.deeds; k++) {
                if (!act(year.kinds[k], year.firsts[k], year.seconds[k])) {
                    return k;
                }
                if (year.kinds[k] == READ && firstRead == NONE) {
                    firstRead = k;
                }
                noticeState();
            }
            return Math.min(n, year.deeds);
        }

        private void noticeState() {
            for (int t = 0; t < TOPICS; t++) {
                if (likes[t] == 0) {
                    bored |= 1 << t;
                }
            }
            for (int p = 0; p < library.people; p++) {
                int knows = Integer.bitCount(knownBy(p));
                if (knows > mostKnown) {
                    mostKnown = knows;
                    gossip = p;
                }
            }
        }

        int lookBack(int what) {
            switch (what) {
                case 0:
                    return pies;
                case 1:
                    return forgot;
                case 2:
                    return gossip;
                case 3:
                    return firstRead;
                case 4:
                    return bored;
                default:
                    return NO_SUCH;
            }
        }

        int answer(int what) {
            switch (what) {
                case 0:
                    return day;
                case 1:
                    return read;
                case 2:
                    return skipped;
                case 3:
                    return left;
                case 4:
                    return hasCold ? 1 : 0;
                case 5:
                    return library.open(read | skipped);
                default:
                    return rowAnswer(what);
            }
        }

        private int rowAnswer(int what) {
            if (isWithin(what, 10, 10 + TOPICS - 1)) {
                return likes[what - 10];
            }
            if (what >= 20 && library.hasPerson(what - 20)) {
                return knownBy(what - 20);
            }
            if (what < 100) {
                return NO_SUCH;
            }
            int person = (what - 100) / MOST_CHAPTERS;
            int chapter = (what - 100) % MOST_CHAPTERS;
            if (!library.hasPerson(person) || !library.hasChapter(chapter)) {
                return NO_SUCH;
            }
            return known[person * MOST_CHAPTERS + chapter];
        }

        /** Does a DEED, if it can be. */
        boolean act(int kind, int first, int second) {
            switch (kind) {
                case READ:
                    return readChapter(first);
                case SKIP:
                    return skipChapter(first);
                case PIE:
                    return bakePie(first);
                case TELL:
                    return tellPerson(first, second);
                case COLD:
                    return catchCold();
                case DAY:
                    passDay();
                    return true;
                default:
                    return false;
            }
        }

        /** CHAPTERS that he could read now (bits). */
        int readable() {
            int open = hasCold ? 0 : library.open(read | skipped);
            int bits = 0;
            for (int c = 0; c < library.chapters; c++) {
                if (hasBit(open, c) && library.hours[c] <= left && likes[library.topics[c]] > 0) {
                    bits |= 1 << c;
                }
            }
            return bits;
        }

        boolean readChapter(int c) {
            if (!library.hasChapter(c) || !hasBit(readable(), c)) {
                return false;
            }
            read |= 1 << c;
            left -= library.hours[c];
            likes[library.topics[c]]--;
            return true;
        }

        private boolean skipChapter(int c) {
            if (!library.hasChapter(c) || !hasBit(library.open(read | skipped), c)) {
                return false;
            }
            skipped |= 1 << c;
            return true;
        }

        boolean bakePie(int topic) {
            if (!isWithin(topic, 0, TOPICS - 1)) {
                return false;
            }
            likes[topic] = Math.min(MOST_LIKED, likes[topic] + 2);
            pies++;
            return true;
        }

        private boolean tellPerson(int c, int p) {
            if (hasCold || !library.hasChapter(c) || !library.hasPerson(p) || !hasBit(read, c)) {
                return false;
            }
            known[p * MOST_CHAPTERS + c] = 0;
            return true;
        }

        private boolean catchCold() {
            if (hasCold) {
                return false;
            }
            hasCold = true;
            return true;
        }

        private void passDay() {
            for (int c = 0; c < library.chapters; c++) {
                tellOn(c);
            }
            nextMorning();
        }

        void nextMorning() {
            hasCold = false;
            left = library.lamp;
            day++;
        }

        private void tellOn(int c) {
            int knew = whoKnows(c);
            for (int p = 0; p < library.people; p++) {
                int at = p * MOST_CHAPTERS + c;
                if (hasBit(knew, p)) {
                    known[at]++;
                    if (known[at] >= library.memory[p]) {
                        known[at] = NONE;
                        forgot++;
                    }
                } else if ((library.hears[p] & knew) != 0) {
                    known[at] = 0;
                }
            }
        }

        private int whoKnows(int c) {
            int bits = 0;
            for (int p = 0; p < library.people; p++) {
                if (known[p * MOST_CHAPTERS + c] != NONE) {
                    bits |= 1 << p;
                }
            }
            return bits;
        }

        private int knownBy(int p) {
            int bits = 0;
            for (int c = 0; c < library.chapters; c++) {
                if (known[p * MOST_CHAPTERS + c] != NONE) {
                    bits |= 1 << c;
                }
            }
            return bits;
        }

        void liveDrawn(Library place, int seed, int n) {
            begin(place);
            drawnFrom = seed;
            for (int i = 0; i < n; i++) {
                actDrawn(draw(8));
            }
        }

        private int draw(int below) {
            drawnFrom = drawnFrom * 1103515245 + 12345;
            return below < 1 ? 0 : (drawnFrom >>> 16) % below;
        }

        private void actDrawn(int sort) {
            boolean noChapters = library.chapters == 0;
            switch (sort) {
                case 0:
                case 1:
                case 2:
                    if (!noChapters) {
                        act(sort == 2 ? SKIP : READ, draw(library.chapters), NONE);
                    }
                    break;
                case 3:
                    act(PIE, draw(TOPICS), NONE);
                    break;
                case 4:
                case 5:
                    if (!noChapters && library.people > 0) {
                        int chapter = draw(library.chapters);
                        act(TELL, chapter, draw(library.people));
                    }
                    break;
                case 6:
                    act(COLD, NONE, NONE);
                    break;
                default:
                    act(DAY, NONE, NONE);
                    break;
            }
        }

        // a RUMOUR is told on as CHAPTER 0 is, whether that is there or not

        private void beginRumour(Library place, int person) {
            begin(place);
            if (library.hasPerson(person)) {
                known[person * MOST_CHAPTERS] = 0;
            }
        }

        int rumourBehind(Library place, int person, int days) {
            beginRumour(place, person);
            for (int i = 0; i < days; i++) {
                tellOn(0);
            }
            return whoKnows(0);
        }

        int rumourDies(Library place, int person) {
            beginRumour(place, person);
            for (int i = 1; i <= LAST_DAY; i++) {
                tellOn(0);
                if (whoKnows(0) == 0) {
                    return i;
                }
            }
            return NONE;
        }
    }

    /** What he reads HIMSELF, with pies ahead of day 0. */
    static final class Alone {
        final int[] row = new int[MOST_CHAPTERS];
        final int[] pies = new int[BAIT_PIES];
        final int[] bestPies = new int[BAIT_PIES];
        int many;
        private final Life life = new Life();
        private int daysTaken;

        /** Some days, behind the first of the pies. */
        void readOn(Library library, int days, int pieMany) {
            life.begin(library);
            for (int i = 0; i < pieMany && i < BAIT_PIES; i++) {
                life.bakePie(pies[i]);
            }
            many = 0;
            daysTaken = 0;
            // behind a day on which he read nothing he never reads again
            boolean goesOn = true;
            for (int day = 1; day <= days && goesOn; day++) {
                goesOn = readDay(library);
                if (goesOn) {
                    daysTaken = day;
                }
            }
        }

        private boolean readDay(Library library) {
            int before = many;
            int chapter = favourite(library);
            for (int i = 0; i < MOST_CHAPTERS && chapter != NONE && many < MOST_CHAPTERS; i++) {
                life.readChapter(chapter);
                row[many] = chapter;
                many++;
                chapter = favourite(library);
            }
            life.nextMorning();
            return many > before;
        }

        private int favourite(Library library) {
            int readable = life.readable();
            int best = NONE;
            for (int c = 0; c < library.chapters; c++) {
                if (hasBit(readable, c) && (best == NONE || prefers(library, c, best))) {
                    best = c;
                }
            }
            return best;
        }

        private boolean prefers(Library library, int c, int best) {
            int liked = life.likes[library.topics[c]];
            int bestLiked = life.likes[library.topics[best]];
            return liked > bestLiked || liked == bestLiked && library.hours[c] < library.hours[best];
        }

        private boolean nextPies(int pieMany) {
            int at = Math.min(pieMany, BAIT_PIES) - 1;
            while (at >= 0 && pies[at] == TOPICS - 1) {
                at--;
            }
            if (at < 0) {
                return false;
            }
            int topic = pies[at] + 1;
            for (int i = at; i < pieMany && i < BAIT_PIES; i++) {
                pies[i] = topic;
            }
            return true;
        }

        int fewestPies(Library library, int chapter, int days) {
            for (int pieMany = 0; pieMany <= BAIT_PIES; pieMany++) {
                Arrays.fill(pies, 0);
                boolean more = true;
                for (int i = 0; i < MOST_PIE_ROWS && more; i++) {
                    readOn(library, days, pieMany);
                    if (hasBit(life.read, chapter)) {
                        return pieMany;
                    }
                    more = nextPies(pieMany);
                }
            }
            return NONE;
        }

        int mostRead(Library library, int days, int pieMany) {
            int best = NONE;
            Arrays.fill(pies, 0);
            boolean more = true;
            for (int i = 0; i < MOST_PIE_ROWS && more; i++) {
                readOn(library, days, pieMany);
                if (many > best) {
                    best = many;
                    System.arraycopy(pies, 0, bestPies, 0, BAIT_PIES);
                }
                more = nextPies(pieMany);
            }
            return best;
        }

        int moreByPie(Library library, int topic, int days) {
            readOn(library, days, 0);
            int without = many;
            pies[0] = topic;
            readOn(library, days, 1);
            return many - without;
        }

        int finish(Library library) {
            readOn(library, LAST_DAY, 0);
            return many == library.chapters ? daysTaken : NONE;
        }

        int neverRead(Library library) {
            readOn(library, LAST_DAY, 0);
            return library.allChapters() & ~life.read;
        }
    }

    /** What is asked of sets and rows of CHAPTERS. */
    static final class Plans {
        final int[] ladderRow = new int[MOST_CHAPTERS];
        int ladderLength;
        int banned;
        int banDays;
        private final int[] bySet = new int[CHAPTER_SETS];
        private final boolean[] wins = new boolean[CHAPTER_SETS];
        private final int[] ladderFrom = new int[MOST_CHAPTERS];

        private static boolean isClosed(Library library, int bits) {
            for (int c = 0; c < library.chapters; c++) {
                if (hasBit(bits, c) && (library.leans[c] & ~bits) != 0) {
                    return false;
                }
            }
            return true;
        }

        int largestOrder(Library library, int h) {
            int best = 0;
            for (int bits = 1; bits <= library.allChapters(); bits++) {
                if (Integer.bitCount(bits) > Integer.bitCount(best)
                        && library.hoursOf(bits) <= h && isClosed(library, bits)) {
                    best = bits;
                }
            }
            return best;
        }

        /** The least CHAPTER by which the first of two wins the GAME; NONE: he can't. */
        int winningChapter(Library library, int h) {
            int winning = NONE;
            for (int ordered = library.allChapters(); ordered >= 0; ordered--) {
                winning = winningMove(library, ordered, h - library.hoursOf(ordered));
                wins[ordered] = winning != NONE;
            }
            return winning;
        }

        private int winningMove(Library library, int ordered, int left) {
            int open = library.open(ordered);
            for (int c = 0; c < library.chapters; c++) {
                if (hasBit(open, c) && library.hours[c] <= left && !wins[ordered | 1 << c]) {
                    return c;
                }
            }
            return NONE;
        }

        /**
         * SHELF of some CHAPTERS that lean on one another alone. A set is worth 16 times its days and
         * the HOURS of the last of these: the less that is, the better any CHAPTER comes behind it.
         */
        int fewestDays(Library library, int kept, int lamp) {
            for (int c = 0; c < library.chapters; c++) {
                if (hasBit(kept, c) && library.hours[c] > lamp) {
                    return NONE;
                }
            }
            // no HOURS are left on the day ahead of the first
            bySet[0] = lamp;
            for (int bits = 1; bits <= kept; bits++) {
                if ((bits & ~kept) == 0) {
                    bySet[bits] = cheapestEnd(library, bits, lamp);
                }
            }
            return bySet[kept] / 16;
        }

        private int cheapestEnd(Library library, int bits, int lamp) {
            int best = 16 * LAST_DAY;
            for (int c = 0; c < library.chapters; c++) {
                int rest = bits & ~(1 << c);
                if (rest != bits && (library.leans[c] & ~rest) == 0) {
                    int worth = bySet[rest];
                    boolean fits = worth % 16 + library.hours[c] <= lamp;
                    int next = fits ? worth + library.hours[c] : worth / 16 * 16 + 16 + library.hours[c];
                    best = Math.min(best, next);
                }
            }
            return best;
        }

        int rows(Library library) {
            bySet[0] = 1;
            for (int bits = 1; bits <= library.allChapters(); bits++) {
                int sum = 0;
                for (int c = 0; c < library.chapters; c++) {
                    int rest = bits & ~(1 << c);
                    if (rest != bits && (library.leans[c] & ~rest) == 0) {
                        sum += bySet[rest];
                    }
                }
                bySet[bits] = sum;
            }
            return bySet[library.allChapters()];
        }

        void findLadder(Library library) {
            ladderLength = 0;
            for (int c = library.chapters - 1; c >= 0; c--) {
                ladderFrom[c] = 1;
                for (int d = c + 1; d < library.chapters; d++) {
                    if (hasBit(library.leans[d], c)) {
                        ladderFrom[c] = Math.max(ladderFrom[c], ladderFrom[d] + 1);
                    }
                }
                ladderLength = Math.max(ladderLength, ladderFrom[c]);
            }
            fillLadder(library);
        }

        private void fillLadder(Library library) {
            int at = 0;
            for (int c = 0; c < library.chapters && at < ladderLength; c++) {
                boolean follows = at == 0 || hasBit(library.leans[c], ladderRow[at - 1]);
                if (follows && ladderFrom[c] == ladderLength - at) {
                    ladderRow[at] = c;
                    at++;
                }
            }
        }

        void findBan(Library library) {
            banned = NONE;
            banDays = NONE;
            for (int c = 0; c < library.chapters; c++) {
                int days = fewestDays(library, library.allChapters() & ~library.standingOn(c), library.lamp);
                if (banned == NONE || days != NONE && (banDays == NONE || days < banDays)) {
                    banned = c;
                    banDays = days;
                }
            }
        }
    }

    /** LESSONS: CHAPTERS by numbers in up to 4 parts. */
    static final class Lessons {
        final int[] best = new int[MOST_PARTS];
        private final int[] begins = new int[MOST_PARTS];

        /** The most HOURS of any part; with which CHAPTERS parts begin is in best. */
        int split(Library library, int parts) {
            Arrays.fill(begins, 0);
            int least = NONE;
            boolean more = true;
            for (int i = 0; i < MOST_PIE_ROWS && more; i++) {
                int most = mostHours(library, parts);
                if (least == NONE || most < least) {
                    least = most;
                    System.arraycopy(begins, 0, best, 0, MOST_PARTS);
                }
                more = nextBegins(library.chapters, parts);
            }
            return least;
        }

        private int mostHours(Library library, int parts) {
            int most = 0;
            for (int k = 0; k < parts && k < MOST_PARTS; k++) {
                int stop = k + 1 < parts && k + 1 < MOST_PARTS ? begins[k + 1] : library.chapters;
                int sum = 0;
                for (int c = begins[k]; c < stop; c++) {
                    sum += library.hours[c];
                }
                most = Math.max(most, sum);
            }
            return most;
        }

        /** The next rising row by numbers; the first part always begins with CHAPTER 0. */
        private boolean nextBegins(int chapters, int parts) {
            int at = Math.min(parts, MOST_PARTS) - 1;
            while (at >= 1 && begins[at] == chapters) {
                at--;
            }
            if (at < 1) {
                return false;
            }
            int chapter = begins[at] + 1;
            for (int k = at; k < parts && k < MOST_PARTS; k++) {
                begins[k] = chapter;
            }
            return true;
        }
    }

    /** PEOPLE and days that FIT a LOG. */
    static final class Guesses {
        final int[] fitting = new int[MOST_FITS];
        int many;
        private final int[] knowing = new int[MOST_FITS];
        private int people;

        /** False: a PERSON of the LOG is not there. */
        boolean find(Library library, Log log) {
            many = 0;
            people = library.people;
            if (log.speaksOfOthersThan(library)) {
                return false;
            }
            for (int p = 0; p < people; p++) {
                int now = 1 << p;
                for (int days = 0; days <= NEWS_DAYS; days++) {
                    if (log.isSo(now) && many < MOST_FITS) {
                        fitting[many] = 10 * p + days;
                        knowing[many] = now;
                        many++;
                    }
                    now = library.toldOn(now, 1, library.allPeople());
                }
            }
            return true;
        }

        int surePerson() {
            // they stand by numbers: the first and the last are of one PERSON if all are
            if (many == 0 || fitting[0] / 10 != fitting[many - 1] / 10) {
                return NONE;
            }
            return fitting[0] / 10;
        }

        int personToAsk() {
            int best = NONE;
            int least = MOST_FITS + 1;
            for (int p = 0; p < people && many > 0; p++) {
                int greater = Math.max(knownIn(p), many - knownIn(p));
                if (greater < least) {
                    best = p;
                    least = greater;
                }
            }
            return best;
        }

        int knownIn(int person) {
            int sum = 0;
            for (int i = 0; i < many; i++) {
                if (hasBit(knowing[i], person)) {
                    sum++;
                }
            }
            return sum;
        }

        int leastDays() {
            int least = NEWS_DAYS;
            for (int i = 0; i < many; i++) {
                least = Math.min(least, fitting[i] % 10);
            }
            return least;
        }

        int mostDays() {
            int most = 0;
            for (int i = 0; i < many; i++) {
                most = Math.max(most, fitting[i] % 10);
            }
            return most;
        }
    }
}
