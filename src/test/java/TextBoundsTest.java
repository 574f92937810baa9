/** Boundary cases of term 1 and of the promises 1 to 7, 17, 36 to 38: texts, their FAULTS, images. */
public final class TextBoundsTest {
    private static final int NONE = -1;
    private static final String[][] WORDS = {
        {"chapter", "leans", "likes", "hears", "lamp", "person"}, {"read", "skip", "pie", "tell", "cold", "day"}, {"knows", "not"}};
    private static final int[][] NUMBERS = {{2, 2, 2, 2, 1, 1}, {1, 1, 1, 2, 0, 0}, {1, 1}};
    private static final String TWO = "chapter 1 1;chapter 1 1;person 1;person 1;";

    public static void main(String[] args) {
        chapters();
        likesAndLamp();
        people();
        deeds();
        facts();
        blanks();
        everyByte();
        words();
        numbers();
        grammar();
        cuts();
        furtherOnes();
        firstFault();
        secondFault();
        thirdFault();
        fourthFault();
        howMany();
        newObject();
        feed();
        feedRefused();
        tapeFull();
        end();
        textTaken();
        textInPlace();
        textFaulty();
        textRefused();
        fault();
        library();
        deed();
        fact();
        count();
        image();
        again();
        againRefused();
        Sentence.finish("TextBoundsTest");
    }

    private static String times(int n, String s) {
        return s.repeat(n);
    }

    /** A text without a FAULT. */
    private static void good(int sort, String text) {
        faultAt(sort, 0, text, NONE);
    }

    /** A text with a FAULT, whose place is ahead of the sign ^. */
    private static void bad(int sort, int fault, String marked) {
        faultAt(sort, fault, marked.replace("^", ""), marked.indexOf('^'));
    }

    private static void faultAt(int sort, int fault, String text, int place) {
        OneReader x = new OneReader();
        String told = "text '" + text + "' of sort " + sort;
        Sentence.due(told, Telling.tell(x, sort, NONE, text), fault == 0 ? 0 : NONE);
        Sentence.due("fault of " + told, x.fault(0), fault);
        Sentence.due("place of " + told, x.fault(1), place);
        Sentence.due("count behind " + told, x.count(sort), fault == 0 ? 1 : 0);
        Sentence.due("tape behind " + told, x.end(1), NONE);
    }

    // ---- term 1

    private static void chapters() {
        Sentence.says("A LIBRARY has CHAPTERS, at most 8, from 0 on: HOURS, 1 .. 9, a TOPIC, 0 .. 5");
        Asked.on(times(7, "chapter 1 0;") + "chapter 9 5;").asks("library 0 0 = 8", "library 0 10 = 1", "library 0 17 = 9", "library 0 18 = N",
                "library 0 20 = 0", "library 0 27 = 5", "library 0 28 = N");
        bad(0, 3, times(8, "chapter 1 0;") + "^chapter 1 0;");
        bad(0, 2, "chapter ^0 0;");
        bad(0, 2, "chapter ^00 0;");
        bad(0, 2, "chapter ^10 0;");
        bad(0, 2, "chapter ^99 0;");
        bad(0, 2, "chapter 1 ^6;");
        bad(0, 2, "chapter 9 ^99;");
        good(0, "chapter 01 00;chapter 09 05;");
        Sentence.says("CHAPTERS on which one LEANS, of less numbers each");
        Asked.on(times(8, "chapter 1 0;") + "leans 1 0;leans 7 6;leans 7 0;").asks("library 0 31 = 1", "library 0 37 = 65", "library 0 30 = 0");
        bad(0, 2, TWO + "leans 0 ^0;");
        bad(0, 2, TWO + "leans 1 ^1;");
        bad(0, 2, TWO + "leans 0 ^1;");
        bad(0, 2, times(8, "chapter 1 0;") + "leans 7 ^7;");
    }

    private static void likesAndLamp() {
        Sentence.says("the reader LIKES a TOPIC, 0 .. 9 (5 at first)");
        Asked.on("likes 0 0;likes 5 9;").asks("library 0 40 = 0", "library 0 41 = 5", "library 0 44 = 5", "library 0 45 = 9", "library 0 46 = N");
        bad(0, 2, "likes 0 ^10;");
        bad(0, 2, "likes 5 ^99;");
        bad(0, 2, "likes ^6 0;");
        bad(0, 2, "likes ^99 0;");
        Sentence.says("a LAMP, 1 .. 12 HOURS (6 at first)");
        Asked.on("").asks("library 0 2 = 6");
        Asked.on("lamp 1;").asks("library 0 2 = 1");
        Asked.on("lamp 12;").asks("library 0 2 = 12");
        bad(0, 2, "lamp ^0;");
        bad(0, 2, "lamp ^13;");
        bad(0, 2, "lamp ^99;");
    }

    private static void people() {
        Sentence.says("PEOPLE, at most 6, from 0 on: MEMORY, 1 .. 9; who HEARS whom.");
        Asked.on(times(5, "person 1;") + "person 9;hears 0 5;hears 5 0;hears 5 4;").asks("library 0 1 = 6", "library 0 50 = 1", "library 0 55 = 9",
                "library 0 56 = N", "library 0 60 = 32", "library 0 61 = 0", "library 0 65 = 17", "library 0 66 = N");
        bad(0, 3, times(6, "person 1;") + "^person 1;");
        bad(0, 2, "person ^0;");
        bad(0, 2, "person ^10;");
        Sentence.says("(chapter: HOURS, TOPIC; leans: a CHAPTER, 0 .. 7, on which; likes: a TOPIC, how much; person: MEMORY; hears: a PERSON, 0 .. 5, another one)");
        // in this order
        Asked.on("chapter 9 5;likes 4 8;person 7;person 6;chapter 1 0;leans 1 0;hears 1 0;")
                .asks("library 0 10 = 9", "library 0 20 = 5", "library 0 44 = 8", "library 0 50 = 7", "library 0 31 = 1", "library 0 30 = 0", "library 0 61 = 1", "library 0 60 = 0");
        Sentence.says("hears: a PERSON, 0 .. 5, another one");
        bad(0, 2, "hears ^6 0;");
        bad(0, 2, "hears 0 ^6;");
        bad(0, 2, "hears ^6 6;");
        bad(0, 2, "hears 0 ^0;");
        bad(0, 2, times(6, "person 1;") + "hears 5 ^5;");
        Sentence.says("leans: a CHAPTER, 0 .. 7, on which");
        bad(0, 2, "leans ^8 0;");
        bad(0, 2, "leans ^8 7;");
        bad(0, 2, "leans ^8 8;");
        bad(0, 2, "leans ^99 0;");
    }

    private static void deeds() {
        Sentence.says("A YEAR has DEEDS, at most 40, from 0 on.");
        new Asked().year("cold;" + times(38, "day;") + "pie 3;").asks("deed 0 N 0 = 40", "deed 0 0 0 = 4", "deed 0 39 0 = 2", "deed 0 39 1 = 3", "deed 0 40 0 = -2");
        bad(1, 3, times(40, "day;") + "^day;");
        bad(1, 3, times(40, "pie 5;") + "^tell 7 5;");
        Sentence.says("(read, skip: a CHAPTER, 0 .. 7; pie: a TOPIC; tell: a CHAPTER, a PERSON, 0 .. 5)");
        good(1, "read 0;read 7;skip 0;skip 7;pie 0;pie 5;tell 0 0;tell 7 5;");
        bad(1, 2, "read ^8;");
        bad(1, 2, "skip ^8;");
        bad(1, 2, "pie ^6;");
        bad(1, 2, "tell ^8 0;");
        bad(1, 2, "tell 0 ^6;");
        bad(1, 2, "tell ^8 6;");
        bad(1, 2, "read ^99;");
    }

    private static void facts() {
        Sentence.says("A LOG has FACTS, at most 8, from 0 on: a PERSON KNOWS it, or does NOT.");
        new Asked().log("knows 0;" + times(6, "not 1;") + "not 5;").asks("fact 0 N 0 = 8", "fact 0 0 0 = 0", "fact 0 0 1 = 0", "fact 0 7 0 = 1", "fact 0 7 1 = 5", "fact 0 8 0 = -2");
        bad(2, 3, times(8, "not 0;") + "^not 0;");
        bad(2, 3, times(8, "not 0;") + "^knows 6;");
        bad(2, 2, "knows ^6;");
        bad(2, 2, "not ^6;");
        bad(2, 2, "not ^99;");
        good(2, "knows 5;not 0;knows 0;not 5;");
    }

    private static void blanks() {
        Sentence.says("TOKENS, as long as they go, blanks (10, 32) between");
        good(0, "");
        good(1, " ");
        good(2, "\n");
        good(0, times(600, " "));
        good(0, "\n lamp \n 3 \n ; \n ");
        good(0, "lamp3;");
        good(0, "likes0 3;lamp 3;");
        bad(0, 1, "likes03^;");
        bad(0, 1, "^lampthree;");
        Asked.on("lamp 1 ;lamp\n12\n;").asks("library 0 2 = 12");
        // blanks part what would else be one token
        bad(0, 1, "lamp 1 ^2;");
        bad(0, 1, "^la mp 2;");
    }

    /** Each of the 256 bytes alone, between tokens, in a NUMBER's place. */
    private static void everyByte() {
        Sentence.says("words, rows of letters a .. z; NUMBERS, 1 or 2 digits; ; one byte.");
        for (int b = 0; b < 256; b++) {
            String sign = String.valueOf((char) b);
            boolean blank = b == 10 || b == 32;
            boolean letter = b >= 97 && b <= 122;
            boolean digit = b >= 48 && b <= 57;
            for (int sort = 0; sort < 3; sort++) {
                faultAt(sort, blank ? 0 : 1, sign, blank ? NONE : 0);
            }
            faultAt(0, blank ? 0 : 1, "lamp 3;" + sign, blank ? NONE : 7);
            if (digit) {
                faultAt(0, b == 48 ? 0 : 2, "lamp" + sign + "3;", b == 48 ? NONE : 4);
            } else {
                faultAt(0, blank ? 0 : 1, "lamp" + sign + "3;", blank ? NONE : letter ? 0 : 4);
            }
            if (digit) {
                faultAt(0, b < 51 ? 0 : 2, "lamp 1" + sign + ";", b < 51 ? NONE : 5);
            } else if (b == 59) {
                faultAt(0, 1, "lamp 1" + sign + ";", 7);
            } else {
                faultAt(0, blank ? 0 : 1, "lamp 1" + sign + ";", blank ? NONE : 6);
            }
        }
    }

    /** What is a word but for one sign is none. */
    private static void words() {
        Sentence.says("1 the first byte or token with which no text goes on");
        for (int sort = 0; sort < 3; sort++) {
            for (String[] row : WORDS) {
                for (String word : row) {
                    if (row != WORDS[sort]) {
                        faultAt(sort, 1, " " + word + " 1 0;", 1);
                    }
                }
            }
            for (String word : WORDS[sort]) {
                int most = word.length();
                faultAt(sort, 1, "  " + word.substring(0, most - 1) + " 1 0;", 2);
                faultAt(sort, 1, word.substring(1) + " 1 0;", 0);
                faultAt(sort, 1, word + "a 1 0;", 0);
                faultAt(sort, 1, "z" + word + " 1 0;", 0);
                faultAt(sort, 1, word + word + " 1 0;", 0);
                for (int i = 0; i < most; i++) {
                    char other = word.charAt(i) == 'q' ? 'x' : 'q';
                    faultAt(sort, 1, word.substring(0, i) + other + word.substring(i + 1) + " 1 0;", 0);
                }
                faultAt(sort, 1, Character.toUpperCase(word.charAt(0)) + word.substring(1) + " 1 0;", 0);
            }
        }
    }

    private static void numbers() {
        Sentence.says("(a longer row of digits is no token)");
        bad(0, 1, "lamp ^123;");
        bad(0, 1, "lamp ^001;");
        bad(0, 1, "lamp ^000000000000000000000000003;");
        bad(0, 1, "chapter 1 ^100;");
        bad(0, 1, "^123");
        bad(0, 1, "lamp 3;^123;");
        bad(0, 1, "lamp 3 ^123;");
        bad(1, 1, "read ^007;");
        bad(2, 1, "not ^999;");
        bad(0, 1, "lamp ^12345678901234567890;");
        good(0, "lamp 03;");
        bad(0, 1, "lamp ^-1;");
        bad(0, 1, "lamp ^+1;");
        bad(0, 1, "lamp 1^.5;");
    }

    /** Each word with fewer, as many and more NUMBERS. */
    private static void grammar() {
        Sentence.says("A LIBRARY's text: {(('chapter' | 'leans' | 'likes' | 'hears') NUMBER NUMBER | ('lamp' | 'person') NUMBER) ';'}");
        everyForm(0, TWO);
        Sentence.says("A YEAR's text: {(('read' | 'skip' | 'pie') NUMBER | 'tell' NUMBER NUMBER | 'cold' | 'day') ';'}");
        everyForm(1, "day;");
        Sentence.says("A LOG's text: {('knows' | 'not') NUMBER ';'} (a PERSON).");
        everyForm(2, "not 1;");
        for (int sort = 0; sort < 3; sort++) {
            bad(sort, 1, "^;");
            bad(sort, 1, "^5;");
            bad(sort, 1, "  ^,");
        }
        bad(0, 1, "lamp 3;^;");
        bad(1, 1, "day;^;");
        bad(1, 1, "day ^day;");
        bad(2, 1, "not 1;^;");
    }

    private static void everyForm(int sort, String ahead) {
        String[] numbers = {" 1", " 0", " 2", " 3"};
        for (int w = 0; w < WORDS[sort].length; w++) {
            int due = NUMBERS[sort][w];
            StringBuilder text = new StringBuilder(ahead + WORDS[sort][w]);
            for (int given = 0; given < 4; given++) {
                if (given > 0) {
                    text.append(numbers[given - 1]);
                }
                int tooMany = ahead.length() + WORDS[sort][w].length() + 1 + 2 * due;
                int place = given < due ? text.length() : tooMany;
                faultAt(sort, given == due ? 0 : 1, text + ";", given == due ? NONE : place);
                // without the ; it is the end with which no text goes on
                faultAt(sort, 1, text.toString(), given > due ? tooMany : text.length());
            }
        }
    }

    /** Texts of which the first n bytes alone are taken. */
    private static void cuts() {
        Sentence.says("FAULTS of all, with places (a token's first byte; the end's)");
        cutsOf(0, TWO + "leans 1 0 ; likes 5 9;\nlamp 12;hears 0 1;");
        cutsOf(1, "read 7; skip 7;pie 5\n;tell 7 5;cold ;day;");
        cutsOf(2, "knows 5;\n\nnot 0 ;");
    }

    private static void cutsOf(int sort, String text) {
        for (int n = 0; n <= text.length(); n++) {
            String cut = text.substring(0, n);
            if (cut.trim().isEmpty() || cut.trim().endsWith(";")) {
                faultAt(sort, 0, cut, NONE);
                continue;
            }
            int word = n;
            while (word > 0 && Character.isLetter(cut.charAt(word - 1))) {
                word--;
            }
            boolean whole = word < n && isWord(sort, cut.substring(word));
            faultAt(sort, 1, cut, word == n || whole ? n : word);
        }
    }

    private static boolean isWord(int sort, String token) {
        for (String word : WORDS[sort]) {
            if (word.equals(token)) {
                return true;
            }
        }
        return false;
    }

    private static void furtherOnes() {
        Sentence.says("Later ones strike (likes, lamp), but all others, which are further ones.");
        Asked.on("likes 3 0;likes 3 9;likes 2 9;likes 2 0;lamp 12;lamp 1;likes 3 4;lamp 7;").asks("library 0 43 = 4", "library 0 42 = 0", "library 0 2 = 7");
        Asked.on("chapter 1 1;chapter 1 1;chapter 1 1;leans 2 0;leans 2 1;leans 2 0;person 1;person 1;person 1;hears 0 1;hears 0 2;hears 0 1;")
                .asks("library 0 0 = 3", "library 0 1 = 3", "library 0 32 = 3", "library 0 60 = 6");
        new Asked().year("day;day;pie 1;pie 1;").asks("deed 0 N 0 = 4");
        new Asked().log("not 1;not 1;knows 1;").asks("fact 0 N 0 = 3", "fact 0 1 0 = 1", "fact 0 2 0 = 0");
    }

    private static void firstFault() {
        Sentence.says("If there is none, the first by place, of one place the least");
        // FAULT 1 comes first wherever it is
        bad(0, 1, "lamp 13;lamp^;");
        bad(0, 1, times(9, "chapter 1 1;") + "^x");
        bad(0, 1, "leans 7 6;lamp 3^");
        bad(0, 1, "lamp 13^");
        bad(1, 1, "read 8;" + times(40, "day;") + "read7^");
        bad(2, 1, times(9, "not 6;") + "^and");
        // and of several the first, though a line might begin with it
        bad(0, 1, "lamp ^lamp 3; x");
        bad(0, 1, "likes 1 ^likes 1 2; lamp 3; lamp");
        bad(1, 1, "read ^day; pie;");
        bad(2, 1, "knows 1 ^not 1; 5");
        // else the first by place
        bad(0, 2, "chapter ^0 6;chapter 1 0;");
        bad(0, 2, "chapter 1 ^6;chapter 0 6;");
        bad(0, 2, "lamp ^13;" + times(9, "chapter 1 0;"));
        bad(0, 3, times(8, "chapter 1 0;") + "^chapter 0 0;lamp 13;");
        bad(0, 3, times(6, "person 1;") + "^person 0;");
        bad(0, 2, times(6, "person 1;") + "lamp ^0;person 1;");
        bad(0, 3, times(6, "person 1;") + "^person 1;" + times(9, "chapter 1 1;"));
        bad(0, 3, times(8, "chapter 1 1;") + "^chapter 1 1;" + times(7, "person 1;"));
        bad(1, 2, times(39, "day;") + "read ^8;day;day;");
        bad(1, 3, times(40, "day;") + "^read 8;");
        bad(2, 2, times(7, "not 0;") + "not ^6;not 0;");
        bad(2, 3, times(8, "not 0;") + "^not 6;not 7;");
    }

    private static void secondFault() {
        Sentence.says("2 a NUMBER that can't be (as above; of leans the second CHAPTER, if it is not less than the first; "
                + "of hears the second PERSON, if it is the first;");
        bad(0, 2, TWO + "leans 1 ^9;");
        bad(0, 2, "leans 0 ^7;");
        bad(0, 2, "hears 3 ^3;");
        bad(0, 2, "hears 0 ^9;");
        // whether they are there is another FAULT, which comes later
        bad(0, 2, "leans 5 ^5;hears 4 4;");
        good(0, TWO + "hears 1 0;hears 0 1;");
        Sentence.says("a line with such a NUMBER tells its CHAPTER, PERSON, DEED, FACT all the same");
        bad(0, 2, "chapter ^0 0;" + times(8, "chapter 1 0;"));
        bad(0, 2, "chapter ^0 0;leans 0 1;");
        bad(0, 2, "person ^0;hears 0 1;");
        bad(1, 2, "read ^8;" + times(40, "day;"));
        bad(2, 2, "not ^6;" + times(8, "not 0;"));
    }

    private static void thirdFault() {
        Sentence.says("3 a 9th CHAPTER, a 7th PERSON, a 41st DEED, a 9th FACT, at its first token.");
        good(0, times(8, "chapter 1 0;") + times(6, "person 1;"));
        bad(0, 3, times(8, "chapter 1 0;") + " \n^chapter 1 0;");
        bad(0, 3, times(6, "person 1;") + "  ^person 1;");
        good(1, times(40, "day;"));
        bad(1, 3, times(40, "day;") + " ^cold;");
        bad(1, 3, times(40, "tell 0 0;") + "^read 0;day;");
        good(2, times(8, "knows 0;"));
        bad(2, 3, times(8, "knows 0;") + "\n^knows 0;");
        bad(2, 3, times(4, "knows 0;not 1;") + "^not 0;");
        // lines that tell of no further one
        good(0, times(9, "likes 0 1;lamp 1;") + TWO + times(9, "leans 1 0;hears 0 1;"));
    }

    private static void fourthFault() {
        Sentence.says("If there is none of these, at the end's place, of a LIBRARY: 4 a CHAPTER, a PERSON that was told of and is not there.");
        bad(0, 4, "leans 1 0;^");
        bad(0, 4, "chapter 1 1;leans 1 0;^");
        bad(0, 4, "chapter 1 1;leans 1 0; \n ^");
        good(0, "chapter 1 1;leans 1 0;chapter 1 1;");
        bad(0, 4, times(7, "chapter 1 1;") + "leans 7 0;^");
        good(0, times(8, "chapter 1 1;") + "leans 7 0;");
        bad(0, 4, "hears 0 1;^");
        bad(0, 4, "person 1;hears 0 1;^");
        bad(0, 4, "person 1;hears 1 0;^");
        good(0, "hears 1 0;hears 0 1;person 1;person 1;");
        bad(0, 4, times(5, "person 1;") + "hears 0 5;^");
        bad(0, 4, times(5, "person 1;") + "hears 5 0;^");
        // CHAPTERS are no PEOPLE
        bad(0, 4, "chapter 1 1;chapter 1 1;hears 0 1;^");
        bad(0, 4, "person 1;person 1;leans 1 0;^");
        bad(0, 2, "leans 1 0;lamp ^0;");
        bad(0, 3, "leans 7 0;" + times(6, "person 1;") + "^person 1;");
        // a YEAR, a LOG may tell of what is nowhere
        good(1, "read 7;tell 7 5;");
        good(2, "knows 5;not 5;");
        // the latest LIBRARY has nothing to do with the one ahead
        Asked x = Asked.on("leans 1 0;chapter 1 1;chapter 1 1;hears 0 1;person 1;person 1;").library("chapter 1 1;person 1;");
        x.asks("library 1 30 = 0", "library 1 60 = 0", "library 0 31 = 1", "library 0 60 = 2");
    }

    private static void howMany() {
        Sentence.says("LIBRARIES, at most 2 (sort 0), YEARS, at most 2 (1), LOGS, at most 2 (2), from 0 on.");
        for (int sort = 0; sort < 3; sort++) {
            new Asked().asks("count " + sort + " = 0", "text " + sort + " N = 0", "count " + sort + " = 1", "text " + sort + " N = 1",
                    "count " + sort + " = 2", "text " + sort + " N = -2", "count " + sort + " = 2", "text " + sort + " 1 = 1",
                    "count " + (sort + 1) % 3 + " = 0", "count " + (sort + 2) % 3 + " = 0");
        }
    }

    // ---- promises

    private static void newObject() {
        Sentence.says("No LIBRARIES, YEARS, LOGS; no images.");
        // one that was used ahead does not show in a new one
        Asked.on(TWO).year("day;").log("not 1;").asks("image 0 = true", "image 1 = true", "image 2 = true");
        new Asked().asks("count 0 = 0", "count 1 = 0", "count 2 = 0", "again 0 = false", "again 1 = false", "again 2 = false",
                "library 0 0 = N", "deed 0 N 0 = -2", "fact 0 N 0 = -2", "fault 0 = 0", "fault 1 = N", "end 1 = N", "end 0 = 0");
        Sentence.says("The constants: `NONE = -1`: There is none.");
        Sentence.due("NONE", OneReader.NONE, -1);
    }

    private static void feed() {
        Sentence.says("The tape: twenty bytes come behind it, of each number the highest first: how many it has.");
        new Asked().asks("feed 0x6c616d70 0x20202020 0x20202020 0x20202020 0x20202020 = 20", "feed 0x2020200a 0x0a0a0a0a 0x20202020 0x20202020 0x31303b20 = 40",
                "end 39 = 39", "text 0 N = 0", "library 0 2 = 10");
        // numbers below 0: bytes from 128 on
        new Asked().asks("feed -1 -1 -1 -1 -1 = 20", "text 0 N = N", "fault 0 = 1", "fault 1 = 0");
        new Asked().asks("feed 0x20202080 0 0 0 0 = 20", "text 0 N = N", "fault 1 = 3");
        new Asked().asks("feed 0x2020a020 0 0 0 0 = 20", "text 0 N = N", "fault 1 = 2");
        new Asked().asks("feed 0x208a2020 0 0 0 0 = 20", "text 0 N = N", "fault 1 = 1");
        new Asked().asks("feed 0xa0202020 0 0 0 0 = 20", "text 0 N = N", "fault 1 = 0");
        new Asked().asks("feed 0x20202020 0x20202020 0x20202020 0x20202020 0x20202000 = 20", "text 0 N = N", "fault 1 = 19");
        // a tape that is no full twenty long
        new Asked().asks("feed 0x6c616d70 0x20312121 0 0 0 = 20", "end 6 = 6", "feed 0x323b2020 0x20202020 0x20202020 0x20202020 0x20202020 = 26",
                "text 0 N = 0", "library 0 2 = 12");
    }

    private static void feedRefused() {
        Sentence.says("NONE, and nothing comes, if there would be more than 600.");
        for (int length : new int[] {580, 581, 590, 599, 600}) {
            Asked x = new Asked().tape(times(580, " ") + "lamp 3;" + times(13, "\n"));
            x.asks("end " + length + " = " + length);
            x.asks("feed 0 0 0 0 0 = " + (length == 580 ? "600" : "N"));
            if (length == 580) {
                x.asks("end 600 = 600", "text 0 N = N", "fault 0 = 1", "fault 1 = 580");
            } else {
                x.asks("end " + (length + 1) + " = N", "feed 0 0 0 0 0 = N", "end " + length + " = " + length);
                if (length >= 590) {
                    x.asks("text 0 N = 0", "library 0 2 = 3", "feed 0 0 0 0 0 = 20");
                } else {
                    // 'l' alone is no word
                    x.asks("text 0 N = N", "fault 1 = 580", "feed 0 0 0 0 0 = 20");
                }
            }
        }
        // a refused feed() leaves the FAULT of the latest text()
        Asked y = new Asked().tape("lamp 0;").asks("text 0 N = N").tape(times(600, " "));
        y.asks("feed 1 2 3 4 5 = N", "fault 0 = 2", "fault 1 = 5", "end 600 = 600", "end 601 = N");
    }

    private static void tapeFull() {
        Sentence.says("THE TAPE has at most 600 bytes.");
        Asked x = new Asked().tape(times(588, " ") + "lamp 3;lamp4");
        x.asks("end 600 = 600", "feed 0 0 0 0 0 = N", "end 599 = 599", "text 0 N = N", "fault 0 = 1", "fault 1 = 599");
        Asked y = new Asked().tape(times(50, "chapter 1 0;"));
        y.asks("end 600 = 600", "text 0 N = N", "fault 0 = 3", "fault 1 = 96");
        Asked z = new Asked().tape(times(75, "lamp 10;"));
        z.asks("end 600 = 600", "text 0 N = 0", "library 0 2 = 10");
    }

    private static void end() {
        Sentence.says("The tape has its first n bytes alone: n. NONE if it has not so many, or n is below 0.");
        new Asked().asks("end 0 = 0", "end 1 = N", "end -1 = N", "end MIN = N", "end MAX = N");
        Asked x = new Asked().tape("lamp 3;lamp 4;      ");
        x.asks("end 21 = N", "end -1 = N", "end MIN = N", "end MAX = N", "end 600 = N", "end 20 = 20", "end 20 = 20", "end 14 = 14", "end 15 = N",
                "end 7 = 7", "end 14 = N", "text 0 N = 0", "library 0 2 = 3");
        // what was cut off does not come back
        new Asked().tape("lamp 3;lamp 4;").asks("end 0 = 0", "end 1 = N", "feed 0x20202020 0x20202020 0x20202020 0x20202020 0x20202020 = 20", "text 0 N = 0", "library 0 2 = 6");
        new Asked().tape(times(600, " ")).asks("end 601 = N", "end 600 = 600", "end 599 = 599", "end 600 = N");
    }

    private static void textTaken() {
        Sentence.says("The tape is taken (and is empty then) as a text of a sort, a further one (at NONE), or in the place of one: its number.");
        new Asked().tape("lamp 3;").asks("text 0 N = 0", "end 1 = N", "end 0 = 0", "text 0 N = 1", "library 0 2 = 3", "library 1 2 = 6");
        // an empty tape is a text
        new Asked().asks("text 0 N = 0", "text 1 N = 0", "text 2 N = 0", "library 0 0 = 0", "library 0 1 = 0", "deed 0 N 0 = 0", "fact 0 N 0 = 0", "fault 0 = 0", "fault 1 = N");
    }

    private static void textInPlace() {
        Sentence.says("or in the place of one: its number.");
        Asked x = Asked.on(TWO + "leans 1 0;hears 0 1;likes 1 1;lamp 9;").library("lamp 11;");
        x.tape("lamp 2;").asks("text 0 0 = 0", "count 0 = 2", "library 0 2 = 2", "library 0 0 = 0", "library 0 1 = 0", "library 0 41 = 5", "library 1 2 = 11");
        // nothing of the one ahead is left
        x.tape("chapter 1 0;chapter 1 0;person 2;person 2;").asks("text 0 0 = 0", "library 0 31 = 0", "library 0 60 = 0", "library 0 2 = 6");
        x.tape("lamp 7;").asks("text 0 1 = 1", "library 1 2 = 7", "library 0 2 = 6");
        Asked y = new Asked().year("day;day;day;").log("not 1;not 2;");
        y.tape("pie 4;").asks("text 1 0 = 0", "deed 0 N 0 = 1", "deed 0 0 1 = 4", "deed 0 1 0 = -2", "count 1 = 1");
        y.tape("knows 5;").asks("text 2 0 = 0", "fact 0 N 0 = 1", "fact 0 0 1 = 5", "fact 0 1 0 = -2", "count 2 = 1");
        y.asks("text 1 0 = 0", "deed 0 N 0 = 0", "text 2 0 = 0", "fact 0 N 0 = 0");
    }

    private static void textFaulty() {
        Sentence.says("NONE: a FAULT.");
        Asked x = Asked.on(TWO + "lamp 9;").year("day;day;").log("not 1;");
        x.tape("lamp 1;lamp 13;").asks("text 0 0 = N", "library 0 2 = 9", "library 0 0 = 2", "count 0 = 1", "end 1 = N", "fault 0 = 2", "fault 1 = 12");
        x.tape("lamp 1;lamp 13;").asks("text 0 N = N", "count 0 = 1", "library 1 2 = N");
        x.tape("pie 1;pie 6;").asks("text 1 0 = N", "deed 0 N 0 = 2", "deed 0 0 0 = 5", "text 1 N = 1", "deed 1 N 0 = 0");
        x.tape("knows 1;knows 6;").asks("text 2 0 = N", "fact 0 N 0 = 1", "fact 0 0 0 = 1", "end 1 = N");
        // also where there are two already
        x.library("").tape("lamp 0;").asks("text 0 1 = N", "library 1 2 = 6", "count 0 = 2");
    }

    private static void textRefused() {
        Sentence.says("-2: there is none such, there are as many as may be, or no such sort (no text is read then, FAULT 0).");
        String[] none = {"0 0", "1 0", "2 0", "0 1", "0 -2", "1 2", "2 MIN", "0 MAX", "3 N", "-1 N", "3 0", "MIN 0", "MAX N"};
        for (String asked : none) {
            Asked x = new Asked().tape("lamp 0;").asks("text 0 N = N", "fault 0 = 2");
            x.tape("lamp 0;").asks("text " + asked + " = -2", "fault 0 = 0", "fault 1 = N", "end 1 = N", "count 0 = 0", "count 1 = 0", "count 2 = 0");
        }
        String[] full = {"0 N", "1 N", "2 N", "0 2", "1 2", "2 2", "0 -2", "3 0", "3 N", "-1 0", "-1 N"};
        for (String asked : full) {
            Asked x = Asked.on("lamp 1;").library("lamp 2;").year("day;").year("").log("not 1;").log("");
            x.tape("lamp 0;").asks("text " + asked + " = -2", "fault 0 = 0", "fault 1 = N", "end 1 = N", "count 0 = 2", "count 1 = 2", "count 2 = 2",
                    "library 0 2 = 1", "library 1 2 = 2", "deed 0 N 0 = 1", "deed 1 N 0 = 0", "fact 0 N 0 = 1", "fact 1 N 0 = 0");
        }
    }

    private static void fault() {
        Sentence.says("Of the latest text(), what 0: the FAULT, 0 without, 1: its place, NONE without. NONE for another what.");
        Asked x = new Asked().tape("lamp 0;").asks("text 0 N = N", "fault 0 = 2", "fault 1 = 5", "fault 2 = N", "fault -1 = N", "fault MAX = N", "fault MIN = N");
        // no other call changes it
        x.asks("feed 0 0 0 0 0 = 20", "end 0 = 0", "end 1 = N", "count 0 = 0", "library 0 0 = N", "image 0 = true", "again 1 = false", "fault 0 = 2", "fault 1 = 5");
        x.asks("text 1 N = 0", "fault 0 = 0", "fault 1 = N", "fault 2 = N");
        // a place may be 0
        x.tape("x").asks("text 2 N = N", "fault 0 = 1", "fault 1 = 0");
        new Asked().tape(times(599, " ") + "x").asks("text 2 N = N", "fault 1 = 599");
        new Asked().tape(times(594, " ") + "lamp 3").asks("text 0 N = N", "fault 1 = 600");
    }

    private static void library() {
        Sentence.says("Of a LIBRARY, what 0: CHAPTERS, 1: PEOPLE, 2: LAMP, ");
        Asked.on("").asks("library 0 0 = 0", "library 0 1 = 0", "library 0 2 = 6", "library 0 3 = N");
        Asked.on("person 1;lamp 12;").asks("library 0 0 = 0", "library 0 1 = 1", "library 0 2 = 12");
        Asked.on(times(8, "chapter 1 0;")).asks("library 0 0 = 8", "library 0 1 = 0");
        Sentence.says("10 + c, 20 + c, 30 + c: HOURS, TOPIC of a CHAPTER, on which it LEANS (bits), 40 + t: how much a TOPIC is LIKED, "
                + "50 + p, 60 + p: MEMORY of a PERSON, whom he HEARS (bits). NONE: there is none such (of any), or for another what.");
        String full = "chapter 1 5;chapter 2 4;chapter 3 3;chapter 4 2;chapter 5 1;chapter 6 0;chapter 7 5;chapter 8 4;leans 7 6;leans 7 5;leans 6 0;"
                + "likes 0 1;likes 1 2;likes 2 3;likes 3 4;likes 4 6;likes 5 7;person 1;person 2;person 3;person 4;person 5;person 6;hears 5 0;hears 0 5;hears 0 4;";
        Asked x = Asked.on(full);
        int[] hours = {1, 2, 3, 4, 5, 6, 7, 8, NONE, NONE};
        int[] topics = {5, 4, 3, 2, 1, 0, 5, 4, NONE, NONE};
        int[] leans = {0, 0, 0, 0, 0, 0, 1, 96, NONE, NONE};
        int[] likes = {1, 2, 3, 4, 6, 7, NONE, NONE, NONE, NONE};
        int[] memory = {1, 2, 3, 4, 5, 6, NONE, NONE, NONE, NONE};
        int[] hears = {48, 0, 0, 0, 0, 1, NONE, NONE, NONE, NONE};
        int[] first = {8, 6, 6, NONE, NONE, NONE, NONE, NONE, NONE, NONE};
        int[][] tables = {first, hours, topics, leans, likes, memory, hears};
        for (int what = 0; what < 70; what++) {
            x.asks("library 0 " + what + " = " + tables[what / 10][what % 10]);
        }
        x.asks("library 0 70 = N", "library 0 80 = N", "library 0 100 = N", "library 0 -1 = N", "library 0 -8 = N", "library 0 -10 = N", "library 0 MAX = N", "library 0 MIN = N",
                "library 1 0 = N", "library 2 0 = N", "library -1 0 = N", "library MAX 0 = N", "library MIN 0 = N");
        Asked.on("").asks("library 0 0 = 0", "library 0 1 = 0", "library 0 10 = N", "library 0 20 = N", "library 0 30 = N", "library 0 40 = 5", "library 0 45 = 5", "library 0 50 = N", "library 0 60 = N");
    }

    private static void deed() {
        Sentence.says("How many DEEDS (k NONE, what 0); of DEED k, what 0: 0 read, 1 skip, 2 pie, 3 tell, 4 cold, 5 day, 1, 2: its numbers (NONE without). "
                + "-2: there is none such (of either), or for another what.");
        Asked x = new Asked().year("read 7;skip 6;pie 5;tell 4 3;cold;day;");
        int[][] rows = {{0, 7, NONE, -2}, {1, 6, NONE, -2}, {2, 5, NONE, -2}, {3, 4, 3, -2}, {4, NONE, NONE, -2}, {5, NONE, NONE, -2}, {-2, -2, -2, -2}};
        for (int k = 0; k < 7; k++) {
            for (int what = 0; what < 4; what++) {
                x.asks("deed 0 " + k + " " + what + " = " + rows[k][what]);
            }
        }
        x.asks("deed 0 N 0 = 6", "deed 0 N 1 = -2", "deed 0 N 2 = -2", "deed 0 N -1 = -2", "deed 0 0 -1 = -2", "deed 0 -2 0 = -2", "deed 0 MIN 0 = -2", "deed 0 MAX 0 = -2",
                "deed 0 0 MAX = -2", "deed 1 N 0 = -2", "deed 1 0 0 = -2", "deed -1 N 0 = -2", "deed 2 N 0 = -2", "deed MAX 0 0 = -2");
        x.year("").asks("deed 1 N 0 = 0", "deed 1 0 0 = -2");
    }

    private static void fact() {
        Sentence.says("How many FACTS (k NONE, what 0); of FACT k, what 0: 0 KNOWS, 1 does NOT, 1: the PERSON. -2: there is none such (of either), or for another what.");
        Asked x = new Asked().log("knows 5;not 0;not 4;").asks("fact 0 N 0 = 3", "fact 0 N 1 = -2", "fact 0 N -1 = -2", "fact 0 0 0 = 0", "fact 0 0 1 = 5", "fact 0 1 0 = 1", "fact 0 1 1 = 0",
                "fact 0 2 0 = 1", "fact 0 2 1 = 4", "fact 0 3 0 = -2", "fact 0 -2 0 = -2", "fact 0 0 2 = -2", "fact 0 0 -1 = -2", "fact 0 MAX 1 = -2", "fact 0 MIN 1 = -2",
                "fact 1 N 0 = -2", "fact -1 N 0 = -2", "fact 2 0 0 = -2");
        x.log("").asks("fact 1 N 0 = 0", "fact 1 0 0 = -2");
    }

    private static void count() {
        Sentence.says("How many there are of a sort. -2 for another one.");
        Asked.on("").library("").year("").log("").asks("count 0 = 2", "count 1 = 1", "count 2 = 1", "count 3 = -2", "count -1 = -2", "count MAX = -2", "count MIN = -2");
    }

    private static void image() {
        Sentence.says("Image k (0 .. 2) is all that is told (the tape, the FAULT, too), as it is now: true; false for another k.");
        new Asked().asks("image 3 = false", "image -1 = false", "image MAX = false", "image MIN = false", "again 0 = false", "again 1 = false", "again 2 = false");
        // an image of nothing is one
        Asked x = new Asked().asks("image 0 = true").library("lamp 3;").asks("again 0 = true", "count 0 = 0", "library 0 2 = N", "end 1 = N");
        // each k is its own, a later image of the same k takes its place
        x.library("lamp 1;").asks("image 0 = true").library("lamp 2;").asks("image 1 = true").tape("lamp 3;").asks("text 0 0 = 0", "image 2 = true");
        x.asks("again 0 = true", "count 0 = 1", "library 0 2 = 1", "again 2 = true", "count 0 = 2", "library 0 2 = 3", "library 1 2 = 2", "again 1 = true", "library 0 2 = 1", "image 0 = true",
                "again 2 = true", "again 0 = true", "library 0 2 = 1", "library 1 2 = 2", "count 0 = 2");
        // a refused image() leaves the images
        x.asks("image 3 = false", "again 2 = true", "library 0 2 = 3");
    }

    private static void again() {
        Sentence.says("All that is as image k has it: true; false if there is none such.");
        Asked x = Asked.on(TWO + "lamp 9;").year("pie 1;").log("knows 1;").tape("lamp 13;").asks("text 0 N = N").tape("lamp 4;").asks("image 1 = true");
        x.tape("x").asks("text 1 N = N", "fault 0 = 1").library("lamp 5;").year("day;day;").log("not 3;");
        x.tape("lamp 8;").asks("text 0 0 = 0").tape("cold;").asks("text 1 0 = 0").tape("not 5;").asks("text 2 0 = 0", "again 1 = true");
        x.asks("fault 0 = 2", "fault 1 = 5", "count 0 = 1", "count 1 = 1", "count 2 = 1", "library 0 2 = 9", "library 0 0 = 2", "library 1 2 = N", "deed 0 0 0 = 2", "deed 1 N 0 = -2",
                "fact 0 0 0 = 0", "fact 1 N 0 = -2", "end 8 = N", "end 7 = 7", "text 0 N = 1", "library 1 2 = 4", "fault 0 = 0");
        // the image is as it was, as often as it is asked for, with all bytes of its tape
        x.asks("again 1 = true", "count 0 = 1", "end 8 = N", "end 3 = 3", "again 1 = true", "end 7 = 7", "text 0 0 = 0", "library 0 2 = 4", "again 1 = true", "library 0 2 = 9");
        Asked y = new Asked().tape(times(593, " ") + "lamp 4;").asks("image 2 = true", "end 0 = 0").tape(times(600, "x")).asks("again 2 = true", "end 600 = 600", "text 0 N = 0", "library 0 2 = 4");
        // two of each sort
        Asked z = Asked.on("lamp 1;").library("lamp 2;").year("pie 1;").year("pie 2;").log("knows 1;").log("knows 2;").asks("image 0 = true");
        for (int sort = 0; sort < 3; sort++) {
            z.asks("text " + sort + " 0 = 0", "text " + sort + " 1 = 1");
        }
        z.asks("library 1 2 = 6", "deed 1 N 0 = 0", "fact 1 N 0 = 0", "again 0 = true", "library 0 2 = 1", "library 1 2 = 2", "deed 0 0 1 = 1", "deed 1 0 1 = 2", "fact 0 0 1 = 1", "fact 1 0 1 = 2");
        // what is asked of an image is not kept in it
        y.asks("image 0 = true", "text 1 N = 0", "again 0 = true", "count 1 = 0");
    }

    private static void againRefused() {
        Sentence.says("false if there is none such.");
        Asked x = Asked.on("lamp 9;").tape("lamp 13;").asks("text 0 N = N").tape("lamp 4;").asks("image 1 = true", "end 5 = 5");
        for (String k : new String[] {"0", "2", "3", "-1", "MAX", "MIN"}) {
            x.asks("again " + k + " = false", "fault 0 = 2", "fault 1 = 5", "count 0 = 1", "library 0 2 = 9", "end 6 = N", "end 5 = 5");
        }
        x.asks("again 1 = true", "end 7 = 7");
    }
}
