import java.math.BigInteger;
import java.nio.charset.StandardCharsets;
import java.util.ArrayList;
import java.util.HashMap;
import java.util.HashSet;
import java.util.List;
import java.util.Map;
import java.util.Set;
import java.util.TreeMap;
import java.util.TreeSet;
import java.util.regex.Matcher;
import java.util.regex.Pattern;

/**
 * The document once more, told slowly and in another way than src/main/java/OneReader.java tells it,
 * so that ModelTest can hold the two against each other.
 */
final class Model {
    static final int NONE = -1;

    /** Nothing in it changes once its text has been read. */
    static final class Lib {
        final List<int[]> chapters = new ArrayList<>();
        final List<Set<Integer>> leans = new ArrayList<>();
        final int[] likes = {5, 5, 5, 5, 5, 5};
        final List<Integer> memories = new ArrayList<>();
        final List<Set<Integer>> hears = new ArrayList<>();
        int lamp = 6;

        int size() {
            return chapters.size();
        }

        int people() {
            return memories.size();
        }

        int hours(int c) {
            return chapters.get(c)[0];
        }

        int topic(int c) {
            return chapters.get(c)[1];
        }

        int hours(Iterable<Integer> some) {
            int sum = 0;
            for (int c : some) {
                sum += hours(c);
            }
            return sum;
        }

        Set<Integer> all() {
            return numbers((1 << size()) - 1);
        }
    }

    private ArrayList<Byte> tape = new ArrayList<>();
    private int fault = 0;
    private int place = NONE;
    private ArrayList<Lib> libs = new ArrayList<>();
    private ArrayList<List<int[]>> years = new ArrayList<>();
    private ArrayList<List<int[]>> logs = new ArrayList<>();
    private final Model[] images = new Model[3];

    static Set<Integer> numbers(int bits) {
        Set<Integer> set = new TreeSet<>();
        for (int i = 0; i < 31; i++) {
            if ((bits & 1 << i) != 0) {
                set.add(i);
            }
        }
        return set;
    }

    static int bits(Iterable<Integer> set) {
        int bits = 0;
        for (int i : set) {
            bits |= 1 << i;
        }
        return bits;
    }

    private Lib lib(int k) {
        return k < 0 || k >= libs.size() ? null : libs.get(k);
    }

    private List<int[]> year(int k) {
        return k < 0 || k >= years.size() ? null : years.get(k);
    }

    private List<int[]> log(int k) {
        return k < 0 || k >= logs.size() ? null : logs.get(k);
    }

    Lib anyLib(int k) {
        return lib(k);
    }

    // ---- the tape and its texts

    int feed(int a, int b, int c, int d, int e) {
        if (tape.size() + 20 > 600) {
            return NONE;
        }
        java.nio.ByteBuffer buffer = java.nio.ByteBuffer.allocate(20);
        buffer.putInt(a).putInt(b).putInt(c).putInt(d).putInt(e);
        for (byte x : buffer.array()) {
            tape.add(x);
        }
        return tape.size();
    }

    int end(int n) {
        if (n < 0 || n > tape.size()) {
            return NONE;
        }
        tape = new ArrayList<>(tape.subList(0, n));
        return n;
    }

    private static final Pattern TOKEN = Pattern.compile("[a-z]+|[0-9]+|[^ \n]", Pattern.DOTALL);
    private static final Map<String, String> LINES = Map.ofEntries(
            Map.entry("chapter", "0ht"), Map.entry("leans", "0cl"), Map.entry("likes", "0tk"),
            Map.entry("hears", "0po"), Map.entry("lamp", "0w"), Map.entry("person", "0m"),
            Map.entry("read", "1c"), Map.entry("skip", "1c"), Map.entry("pie", "1t"),
            Map.entry("tell", "1cp"), Map.entry("cold", "1"), Map.entry("day", "1"),
            Map.entry("knows", "2p"), Map.entry("not", "2p"));
    private static final List<String> DEEDS = List.of("read", "skip", "pie", "tell", "cold", "day");

    private static boolean canBe(char sort, int number, int ahead) {
        switch (sort) {
            case 'h': case 'm': return number >= 1 && number <= 9;
            case 't': case 'p': return number <= 5;
            case 'c': return number <= 7;
            case 'l': return number < ahead;
            case 'k': return number <= 9;
            case 'o': return number <= 5 && number != ahead;
            case 'w': return number >= 1 && number <= 12;
            default: throw new IllegalStateException();
        }
    }

    int text(int sort, int at) {
        fault = 0;
        place = NONE;
        byte[] bytes = new byte[tape.size()];
        for (int i = 0; i < bytes.length; i++) {
            bytes[i] = tape.get(i);
        }
        tape = new ArrayList<>();
        if (sort < 0 || sort > 2) {
            return -2;
        }
        ArrayList<?> rows = sort == 0 ? libs : sort == 1 ? years : logs;
        if (at == NONE ? rows.size() == 2 : at < 0 || at >= rows.size()) {
            return -2;
        }
        List<List<Integer>> lines = new ArrayList<>();
        List<String> words = new ArrayList<>();
        int found = firstBreak(new String(bytes, StandardCharsets.ISO_8859_1), sort, words, lines);
        if (found != NONE) {
            fault = 1;
            place = found;
            return NONE;
        }
        TreeSet<Integer> faults = new TreeSet<>();
        Lib lib = new Lib();
        List<int[]> rest = new ArrayList<>();
        build(words, lines, lib, rest, faults);
        if (faults.isEmpty() && sort == 0 && tellsOfMissing(words, lines, lib)) {
            faults.add(10 * bytes.length + 4);
        }
        if (!faults.isEmpty()) {
            fault = faults.first() % 10;
            place = faults.first() / 10;
            return NONE;
        }
        int number = at == NONE ? rows.size() : at;
        if (sort == 0) {
            put(libs, number, lib);
        } else {
            put(sort == 1 ? years : logs, number, rest);
        }
        return number;
    }

    private static <T> void put(ArrayList<T> rows, int at, T one) {
        if (at == rows.size()) {
            rows.add(one);
        } else {
            rows.set(at, one);
        }
    }

    /** The place of FAULT 1, or NONE; a line is: place, number, place, number, place. */
    private static int firstBreak(String text, int sort, List<String> words, List<List<Integer>> lines) {
        Matcher m = TOKEN.matcher(text);
        String form = null;
        List<Integer> line = null;
        while (m.find()) {
            String token = m.group();
            if (form == null) {
                form = LINES.get(token);
                if (form == null || form.charAt(0) - '0' != sort) {
                    return m.start();
                }
                form = form.substring(1);
                line = new ArrayList<>(List.of(m.start()));
                words.add(token);
                lines.add(line);
            } else if (form.isEmpty()) {
                if (!token.equals(";")) {
                    return m.start();
                }
                form = null;
            } else {
                if (!token.matches("[0-9]{1,2}")) {
                    return m.start();
                }
                line.add(Integer.parseInt(token));
                line.add(m.start());
                form = form.substring(1);
            }
        }
        return form == null ? NONE : text.length();
    }

    private static void build(List<String> words, List<List<Integer>> lines, Lib lib, List<int[]> rest,
            TreeSet<Integer> faults) {
        for (int c = 0; c < 8; c++) {
            lib.leans.add(new TreeSet<>());
            lib.hears.add(new TreeSet<>());
        }
        Map<String, Integer> told = new HashMap<>();
        for (int i = 0; i < words.size(); i++) {
            String word = words.get(i);
            List<Integer> line = lines.get(i);
            String form = LINES.get(word);
            String of = form.charAt(0) == '0' ? word : form.substring(0, 1);
            int most = of.equals("chapter") ? 8 : of.equals("person") ? 6 : of.equals("1") ? 40 : of.equals("2") ? 8 : 999;
            if (told.merge(of, 1, Integer::sum) > most) {
                faults.add(10 * line.get(0) + 3);
            }
            for (int k = 1; k < form.length(); k++) {
                if (!canBe(form.charAt(k), line.get(2 * k - 1), k == 2 ? line.get(1) : NONE)) {
                    faults.add(10 * line.get(2 * k) + 2);
                }
            }
            if (faults.isEmpty()) {
                tell(word, line.size() > 1 ? line.get(1) : NONE, line.size() > 3 ? line.get(3) : NONE, lib, rest);
            }
        }
    }

    private static void tell(String word, int a, int b, Lib lib, List<int[]> rest) {
        switch (word) {
            case "chapter": lib.chapters.add(new int[] {a, b}); break;
            case "leans": lib.leans.get(a).add(b); break;
            case "likes": lib.likes[a] = b; break;
            case "hears": lib.hears.get(a).add(b); break;
            case "lamp": lib.lamp = a; break;
            case "person": lib.memories.add(a); break;
            case "knows": rest.add(new int[] {0, a}); break;
            case "not": rest.add(new int[] {1, a}); break;
            default: rest.add(new int[] {DEEDS.indexOf(word), a, b}); break;
        }
    }

    private static boolean tellsOfMissing(List<String> words, List<List<Integer>> lines, Lib lib) {
        for (int i = 0; i < words.size(); i++) {
            for (int k = 1; k < lines.get(i).size(); k += 2) {
                int number = lines.get(i).get(k);
                if (words.get(i).equals("leans") && number >= lib.size()
                        || words.get(i).equals("hears") && number >= lib.people()) {
                    return true;
                }
            }
        }
        return false;
    }

    int fault(int what) {
        return what == 0 ? fault : what == 1 ? place : NONE;
    }

    int library(int library, int what) {
        Lib l = lib(library);
        if (l == null) {
            return NONE;
        }
        Map<Integer, Integer> answers = new HashMap<>();
        answers.put(0, l.size());
        answers.put(1, l.people());
        answers.put(2, l.lamp);
        for (int c = 0; c < l.size(); c++) {
            answers.put(10 + c, l.hours(c));
            answers.put(20 + c, l.topic(c));
            answers.put(30 + c, bits(l.leans.get(c)));
        }
        for (int t = 0; t < 6; t++) {
            answers.put(40 + t, l.likes[t]);
        }
        for (int p = 0; p < l.people(); p++) {
            answers.put(50 + p, l.memories.get(p));
            answers.put(60 + p, bits(l.hears.get(p)));
        }
        return answers.getOrDefault(what, NONE);
    }

    private static int rowAnswer(List<int[]> rows, int k, int what) {
        if (rows == null) {
            return -2;
        }
        if (k == NONE) {
            return what == 0 ? rows.size() : -2;
        }
        return k < 0 || k >= rows.size() || what < 0 || what >= rows.get(k).length ? -2 : rows.get(k)[what];
    }

    int deed(int year, int k, int what) {
        return rowAnswer(year(year), k, what);
    }

    int fact(int log, int k, int what) {
        return rowAnswer(log(log), k, what);
    }

    int count(int sort) {
        return sort == 0 ? libs.size() : sort == 1 ? years.size() : sort == 2 ? logs.size() : -2;
    }

    boolean image(int k) {
        if (k < 0 || k > 2) {
            return false;
        }
        images[k] = new Model();
        images[k].take(this);
        return true;
    }

    boolean again(int k) {
        if (k < 0 || k > 2 || images[k] == null) {
            return false;
        }
        take(images[k]);
        return true;
    }

    private void take(Model other) {
        tape = new ArrayList<>(other.tape);
        fault = other.fault;
        place = other.place;
        libs = new ArrayList<>(other.libs);
        years = new ArrayList<>(other.years);
        logs = new ArrayList<>(other.logs);
    }

    // ---- years

    static final class State {
        final Lib lib;
        int day = 0;
        int left;
        boolean cold = false;
        final int[] likes;
        final Set<Integer> read = new TreeSet<>();
        final Set<Integer> skipped = new TreeSet<>();
        /** What each PERSON KNOWS, and for how many days. */
        final List<TreeMap<Integer, Integer>> heads = new ArrayList<>();
        final List<Integer> readRow = new ArrayList<>();
        int pies = 0;
        int forgot = 0;

        State(Lib lib) {
            this.lib = lib;
            left = lib.lamp;
            likes = lib.likes.clone();
            for (int p = 0; p < lib.people(); p++) {
                heads.add(new TreeMap<>());
            }
        }

        boolean done(int c) {
            return read.contains(c) || skipped.contains(c);
        }

        boolean may(int c) {
            return c >= 0 && c < lib.size() && !done(c) && lib.leans.get(c).stream().allMatch(this::done);
        }

        boolean could(int c) {
            return may(c) && lib.hours(c) <= left && likes[lib.topic(c)] > 0 && !cold;
        }

        boolean can(int[] deed) {
            switch (deed[0]) {
                case 0: return could(deed[1]);
                case 1: return may(deed[1]);
                case 2: return true;
                case 3: return read.contains(deed[1]) && deed[2] < lib.people() && !cold;
                case 4: return !cold;
                default: return true;
            }
        }

        void act(int... deed) {
            switch (deed[0]) {
                case 0:
                    read.add(deed[1]);
                    readRow.add(deed[1]);
                    left -= lib.hours(deed[1]);
                    likes[lib.topic(deed[1])] -= 1;
                    break;
                case 1: skipped.add(deed[1]); break;
                case 2:
                    likes[deed[1]] = Math.min(likes[deed[1]] + 2, 9);
                    pies++;
                    break;
                case 3: heads.get(deed[2]).put(deed[1], 0); break;
                case 4: cold = true; break;
                default: night(); break;
            }
        }

        void night() {
            List<TreeMap<Integer, Integer>> old = new ArrayList<>();
            for (TreeMap<Integer, Integer> head : heads) {
                old.add(new TreeMap<>(head));
            }
            for (int p = 0; p < heads.size(); p++) {
                heads.get(p).clear();
                for (int q : lib.hears.get(p)) {
                    for (int c : old.get(q).keySet()) {
                        heads.get(p).put(c, 0);
                    }
                }
                for (Map.Entry<Integer, Integer> e : old.get(p).entrySet()) {
                    if (e.getValue() + 1 == lib.memories.get(p)) {
                        heads.get(p).remove(e.getKey());
                        forgot++;
                    } else {
                        heads.get(p).put(e.getKey(), e.getValue() + 1);
                    }
                }
            }
            cold = false;
            left = lib.lamp;
            day++;
        }

        int answer(int what) {
            Map<Integer, Integer> answers = new HashMap<>();
            Set<Integer> open = new TreeSet<>();
            for (int c = 0; c < lib.size(); c++) {
                if (may(c)) {
                    open.add(c);
                }
            }
            answers.put(0, day);
            answers.put(1, bits(read));
            answers.put(2, bits(skipped));
            answers.put(3, left);
            answers.put(4, cold ? 1 : 0);
            answers.put(5, bits(open));
            for (int t = 0; t < 6; t++) {
                answers.put(10 + t, likes[t]);
            }
            for (int p = 0; p < lib.people(); p++) {
                answers.put(20 + p, bits(heads.get(p).keySet()));
                for (int c = 0; c < lib.size(); c++) {
                    answers.put(100 + 8 * p + c, heads.get(p).getOrDefault(c, NONE));
                }
            }
            return answers.getOrDefault(what, -2);
        }
    }

    private static int ending(Lib lib, List<int[]> year) {
        State s = new State(lib);
        for (int k = 0; k < year.size(); k++) {
            if (!s.can(year.get(k))) {
                return k;
            }
            s.act(year.get(k));
        }
        return year.size();
    }

    private static State stateBehind(Lib lib, List<int[]> year, int n) {
        State s = new State(lib);
        for (int k = 0; k < n; k++) {
            s.act(year.get(k));
        }
        return s;
    }

    int till(int library, int year) {
        return lib(library) == null || year(year) == null ? NONE : ending(lib(library), year(year));
    }

    int state(int library, int year, int n, int what) {
        if (till(library, year) == NONE || n < 0 || n > till(library, year)) {
            return -2;
        }
        return stateBehind(lib(library), year(year), n).answer(what);
    }

    int after(int library, int year, int what) {
        int end = till(library, year);
        if (end == NONE) {
            return -2;
        }
        Lib l = lib(library);
        List<int[]> y = year(year);
        switch (what) {
            case 0: return stateBehind(l, y, end).pies;
            case 1: return stateBehind(l, y, end).forgot;
            case 2: return gossip(l, y, end);
            case 3:
                for (int k = 0; k < end; k++) {
                    if (y.get(k)[0] == 0) {
                        return k;
                    }
                }
                return NONE;
            case 4: {
                int bored = 0;
                for (int n = 0; n <= end; n++) {
                    for (int t = 0; t < 6; t++) {
                        bored |= stateBehind(l, y, n).likes[t] == 0 ? 1 << t : 0;
                    }
                }
                return bored;
            }
            default: return -2;
        }
    }

    private static int gossip(Lib l, List<int[]> y, int end) {
        for (int most = l.size(); most > 0; most--) {
            for (int n = 0; n <= end; n++) {
                State s = stateBehind(l, y, n);
                for (int p = 0; p < l.people(); p++) {
                    if (s.heads.get(p).size() == most) {
                        return p;
                    }
                }
            }
        }
        return NONE;
    }

    int drawn(int library, int seed, int n, int what) {
        Lib l = lib(library);
        if (l == null || n < 0 || n > 60) {
            return -2;
        }
        long[] x = {seed & 0xffffffffL};
        State s = new State(l);
        for (int i = 0; i < n; i++) {
            int[] deed = drawnDeed(l, x);
            if (deed != null && s.can(deed)) {
                s.act(deed);
            }
        }
        return s.answer(what);
    }

    private static int[] drawnDeed(Lib l, long[] x) {
        int sort = below(x, 8);
        if (sort <= 2) {
            return l.size() == 0 ? null : new int[] {sort == 2 ? 1 : 0, below(x, l.size())};
        }
        if (sort == 3) {
            return new int[] {2, below(x, 6)};
        }
        if (sort <= 5) {
            return l.size() == 0 || l.people() == 0 ? null : new int[] {3, below(x, l.size()), below(x, l.people())};
        }
        return new int[] {sort - 2};
    }

    private static int below(long[] x, int n) {
        x[0] = BigInteger.valueOf(x[0]).multiply(BigInteger.valueOf(1103515245)).add(BigInteger.valueOf(12345))
                .mod(BigInteger.ONE.shiftLeft(32)).longValue();
        return (int) (x[0] / 65536 % n);
    }

    // ---- what he reads of himself

    private static State alone(Lib l, int days, List<Integer> pies) {
        State s = new State(l);
        for (int t : pies) {
            s.act(2, t);
        }
        for (int d = 0; d < days; d++) {
            while (true) {
                Integer best = null;
                for (int c = l.size() - 1; c >= 0; c--) {
                    if (s.could(c) && (best == null || wish(s, c) >= wish(s, best))) {
                        best = c;
                    }
                }
                if (best == null) {
                    break;
                }
                s.act(0, best);
            }
            s.night();
        }
        return s;
    }

    private static int wish(State s, int c) {
        return 100 * s.likes[s.lib.topic(c)] - s.lib.hours(c);
    }

    private static int countOrAt(List<Integer> row, int k) {
        return k == NONE ? row.size() : k < 0 || k >= row.size() ? NONE : row.get(k);
    }

    int himself(int library, int n, int k) {
        Lib l = lib(library);
        return l == null || n < 0 || n > 20 ? NONE : countOrAt(alone(l, n, List.of()).readRow, k);
    }

    private static List<List<Integer>> risingRows(int m) {
        if (m == 0) {
            return List.of(List.of());
        }
        List<List<Integer>> rows = new ArrayList<>();
        for (List<Integer> row : risingRows(m - 1)) {
            for (int t = row.isEmpty() ? 0 : row.get(row.size() - 1); t < 6; t++) {
                List<Integer> longer = new ArrayList<>(row);
                longer.add(t);
                rows.add(longer);
            }
        }
        return rows;
    }

    int bait(int library, int chapter, int n, int k) {
        Lib l = lib(library);
        if (l == null || chapter < 0 || chapter >= l.size() || n < 0 || n > 20) {
            return NONE;
        }
        for (int m = 0; m <= 4; m++) {
            for (List<Integer> pies : risingRows(m)) {
                if (alone(l, n, pies).read.contains(chapter)) {
                    return countOrAt(pies, k);
                }
            }
        }
        return NONE;
    }

    int feast(int library, int n, int m, int k) {
        Lib l = lib(library);
        if (l == null || n < 0 || n > 20 || m < 0 || m > 3) {
            return NONE;
        }
        for (int most = l.size(); most >= 0; most--) {
            for (List<Integer> pies : risingRows(m)) {
                if (alone(l, n, pies).read.size() == most) {
                    return k == NONE ? most : countOrAt(pies, k);
                }
            }
        }
        throw new IllegalStateException();
    }

    int sweet(int library, int topic, int n) {
        Lib l = lib(library);
        if (l == null || n < 0 || n > 20 || topic < 0 || topic > 5) {
            return -99;
        }
        return alone(l, n, List.of(topic)).read.size() - alone(l, n, List.of()).read.size();
    }

    // ---- plans

    private static boolean closed(Lib l, Set<Integer> set) {
        return set.stream().allMatch(c -> set.containsAll(l.leans.get(c)));
    }

    int order(int library, int h, boolean which) {
        Lib l = lib(library);
        if (l == null || h < 0 || h > 72) {
            return NONE;
        }
        for (int many = l.size(); many >= 0; many--) {
            for (int b = 0; b < 1 << l.size(); b++) {
                Set<Integer> set = numbers(b);
                if (set.size() == many && l.hours(set) <= h && closed(l, set)) {
                    return which ? b : many;
                }
            }
        }
        throw new IllegalStateException();
    }

    private static boolean canWin(Lib l, Set<Integer> done, int left, Map<Set<Integer>, Boolean> memo) {
        Boolean known = memo.get(done);
        if (known != null) {
            return known;
        }
        boolean win = firstWin(l, done, left, memo) != NONE;
        memo.put(new HashSet<>(done), win);
        return win;
    }

    private static int firstWin(Lib l, Set<Integer> done, int left, Map<Set<Integer>, Boolean> memo) {
        for (int c = 0; c < l.size(); c++) {
            if (!done.contains(c) && done.containsAll(l.leans.get(c)) && l.hours(c) <= left) {
                Set<Integer> next = new HashSet<>(done);
                next.add(c);
                if (!canWin(l, next, left - l.hours(c), memo)) {
                    return c;
                }
            }
        }
        return NONE;
    }

    int game(int library, int h, boolean first) {
        Lib l = lib(library);
        if (l == null || h < 0 || h > 72) {
            return -2;
        }
        int c = firstWin(l, new HashSet<>(), h, new HashMap<>());
        return first ? c : c == NONE ? 0 : 1;
    }

    private static long term(BigInteger n, BigInteger d, boolean under) {
        BigInteger g = n.gcd(d);
        return (under ? d : n).divide(g).longValueExact();
    }

    private static int wellDays(Lib l, int chapters) {
        int days = 0;
        while (days * l.lamp < l.hours(numbers(chapters))) {
            days++;
        }
        return days;
    }

    long colds(int library, int chapters, int n, int p, boolean under) {
        Lib l = lib(library);
        if (l == null || chapters < 0 || chapters >= 1 << l.size() || n < 1 || n > 9 || p < 0 || p > 10) {
            return NONE;
        }
        long sum = 0;
        for (int well = 0; well < 1 << n; well++) {
            long weight = 1;
            int hours = 0;
            for (int d = 0; d < n; d++) {
                boolean isWell = (well & 1 << d) != 0;
                weight *= isWell ? 10 - p : p;
                hours += isWell ? l.lamp : 0;
            }
            sum += hours >= l.hours(numbers(chapters)) ? weight : 0;
        }
        return term(BigInteger.valueOf(sum), BigInteger.TEN.pow(n), under);
    }

    long waits(int library, int chapters, int p, boolean under) {
        Lib l = lib(library);
        if (l == null || chapters < 0 || chapters >= 1 << l.size() || p < 0 || p > 9) {
            return NONE;
        }
        // E = 1 + p/10 E + (10-p)/10 (E of one good day less), so each good day adds 10/(10-p)
        BigInteger n = BigInteger.ZERO;
        for (int i = 0; i < wellDays(l, chapters); i++) {
            n = n.add(BigInteger.TEN);
        }
        return term(n, BigInteger.valueOf(10 - p), under);
    }

    long share(int library, int topic, boolean under) {
        Lib l = lib(library);
        if (l == null || l.size() == 0 || topic < 0 || topic > 5) {
            return NONE;
        }
        long part = 0;
        for (int c = 0; c < l.size(); c++) {
            part += l.topic(c) == topic ? l.hours(c) : 0;
        }
        return term(BigInteger.valueOf(part), BigInteger.valueOf(l.hours(l.all())), under);
    }

    private static Set<Integer> under(Lib l, int c) {
        Set<Integer> set = new TreeSet<>(l.leans.get(c));
        for (int d : l.leans.get(c)) {
            set.addAll(under(l, d));
        }
        return set;
    }

    private static int underHowMany(Lib l, int c) {
        int many = 0;
        for (int d = 0; d < l.size(); d++) {
            many += under(l, d).contains(c) ? 1 : 0;
        }
        return many;
    }

    /** Day by day, all sets that can be DONE by then. */
    private static int shelfDays(Lib l, Set<Integer> kept, int lamp) {
        int goal = bits(kept);
        Set<Integer> reached = new HashSet<>(Set.of(0));
        for (int days = 0; days <= 8; days++) {
            if (reached.contains(goal)) {
                return days;
            }
            Set<Integer> next = new HashSet<>();
            for (int b = 0; b <= goal; b++) {
                if ((b & ~goal) != 0 || !closed(l, numbers(b))) {
                    continue;
                }
                for (int from : reached) {
                    if ((from & ~b) == 0 && l.hours(numbers(b & ~from)) <= lamp) {
                        next.add(b);
                        break;
                    }
                }
            }
            reached = next;
        }
        return NONE;
    }

    private static int orders(Lib l, Set<Integer> done) {
        if (done.size() == l.size()) {
            return 1;
        }
        int sum = 0;
        for (int c = 0; c < l.size(); c++) {
            if (!done.contains(c) && done.containsAll(l.leans.get(c))) {
                done.add(c);
                sum += orders(l, done);
                done.remove(c);
            }
        }
        return sum;
    }

    private static int halves(Lib l, boolean which) {
        int total = l.hours(l.all());
        for (int apart = 0; apart <= total; apart++) {
            for (int b = 0; b < 1 << Math.max(0, l.size() - 1); b++) {
                int one = l.hours(numbers(b));
                if (Math.abs(one - (total - one)) == apart) {
                    return which ? b : apart;
                }
            }
        }
        throw new IllegalStateException();
    }

    int shelf(int library, int what) {
        Lib l = lib(library);
        if (l == null) {
            return -2;
        }
        switch (what) {
            case 0:
                for (int n = 0; n <= 99; n++) {
                    if (alone(l, n, List.of()).read.size() == l.size()) {
                        return n;
                    }
                }
                return NONE;
            case 1: {
                Set<Integer> dull = l.all();
                dull.removeAll(alone(l, 99, List.of()).read);
                return bits(dull);
            }
            case 2:
            case 3:
                for (int most = l.size(); most >= 0; most--) {
                    for (int c = 0; c < l.size(); c++) {
                        if (underHowMany(l, c) == most) {
                            return what == 2 ? c : most;
                        }
                    }
                }
                return NONE;
            case 4: return shelfDays(l, l.all(), l.lamp);
            case 5: return orders(l, new HashSet<>());
            case 6: return halves(l, false);
            case 7: return halves(l, true);
            default: return what >= 10 && what < 10 + l.size() ? bits(under(l, what - 10)) : -2;
        }
    }

    /** All rows of beginnings, by numbers. */
    private static void begins(List<Integer> row, int n, int size, List<List<Integer>> all) {
        if (row.size() == n) {
            all.add(new ArrayList<>(row));
            return;
        }
        for (int c = row.get(row.size() - 1); c <= size; c++) {
            row.add(c);
            begins(row, n, size, all);
            row.remove(row.size() - 1);
        }
    }

    int lessons(int library, int n, int k) {
        Lib l = lib(library);
        if (l == null || n < 1 || n > 4) {
            return NONE;
        }
        List<List<Integer>> all = new ArrayList<>();
        begins(new ArrayList<>(List.of(0)), n, l.size(), all);
        for (int most = 0; ; most++) {
            for (List<Integer> row : all) {
                boolean fits = true;
                for (int i = 0; i < n; i++) {
                    int stop = i == n - 1 ? l.size() : row.get(i + 1);
                    int sum = 0;
                    for (int c = row.get(i); c < stop; c++) {
                        sum += l.hours(c);
                    }
                    fits &= sum <= most;
                }
                if (fits) {
                    return k == NONE ? most : countOrAt(row, k);
                }
            }
        }
    }

    private static void chains(Lib l, List<Integer> row, List<List<Integer>> all) {
        all.add(new ArrayList<>(row));
        for (int c = 0; c < l.size(); c++) {
            if (row.isEmpty() || l.leans.get(c).contains(row.get(row.size() - 1))) {
                row.add(c);
                chains(l, row, all);
                row.remove(row.size() - 1);
            }
        }
    }

    int ladder(int library, int k) {
        Lib l = lib(library);
        if (l == null) {
            return NONE;
        }
        List<List<Integer>> all = new ArrayList<>();
        chains(l, new ArrayList<>(), all);
        List<Integer> best = List.of();
        for (List<Integer> row : all) {
            if (row.size() > best.size()) {
                best = row;
            }
        }
        return countOrAt(best, k);
    }

    int dim(int library, int n) {
        Lib l = lib(library);
        if (l == null || n < 1 || n > 20) {
            return NONE;
        }
        for (int lamp = 1; lamp <= 12; lamp++) {
            int days = shelfDays(l, l.all(), lamp);
            if (days != NONE && days <= n) {
                return lamp;
            }
        }
        return NONE;
    }

    int ban(int library, boolean days) {
        Lib l = lib(library);
        if (l == null) {
            return -2;
        }
        if (l.size() == 0) {
            return NONE;
        }
        TreeSet<Integer> ways = new TreeSet<>();
        for (int c = 0; c < l.size(); c++) {
            Set<Integer> kept = l.all();
            kept.remove(c);
            for (int d = 0; d < l.size(); d++) {
                if (under(l, d).contains(c)) {
                    kept.remove(d);
                }
            }
            int many = shelfDays(l, kept, l.lamp);
            ways.add(100 * (many == NONE ? 99 : many) + c);
        }
        int best = ways.first();
        return !days ? best % 100 : best / 100 == 99 ? NONE : best / 100;
    }

    // ---- people

    /** How many days NEWS take from each to each, without some; 99: they never come. */
    private static int[][] ways(Lib l, int without) {
        int n = l.people();
        int[][] d = new int[n][n];
        for (int a = 0; a < n; a++) {
            for (int b = 0; b < n; b++) {
                boolean hears = l.hears.get(b).contains(a) && a != without && b != without;
                d[a][b] = a == b ? 0 : hears ? 1 : 99;
            }
        }
        for (int m = 0; m < n; m++) {
            for (int a = 0; a < n; a++) {
                for (int b = 0; b < n; b++) {
                    d[a][b] = Math.min(d[a][b], d[a][m] + d[m][b]);
                }
            }
        }
        return d;
    }

    private boolean isPerson(int library, int p) {
        return lib(library) != null && p >= 0 && p < lib(library).people();
    }

    int news(int library, int person, int n) {
        if (!isPerson(library, person) || n < 0 || n > 9) {
            return NONE;
        }
        int known = 0;
        for (int b = 0; b < lib(library).people(); b++) {
            known |= ways(lib(library), NONE)[person][b] <= n ? 1 << b : 0;
        }
        return known;
    }

    int tellers(int library, int n, boolean who) {
        if (lib(library) == null || n < 0 || n > 9) {
            return NONE;
        }
        int people = lib(library).people();
        for (int many = 0; many <= people; many++) {
            for (int b = 0; b < 1 << people; b++) {
                int known = 0;
                for (int p : numbers(b)) {
                    known |= news(library, p, n);
                }
                if (Integer.bitCount(b) == many && known == (1 << people) - 1) {
                    return who ? b : many;
                }
            }
        }
        throw new IllegalStateException();
    }

    int between(int library, int a, int b) {
        if (!isPerson(library, a) || !isPerson(library, b)) {
            return NONE;
        }
        int days = ways(lib(library), NONE)[a][b];
        return days >= 99 ? NONE : days;
    }

    int centre(int library, boolean days) {
        if (lib(library) == null) {
            return NONE;
        }
        int[][] d = ways(lib(library), NONE);
        for (int n = 0; n < 10; n++) {
            for (int a = 0; a < d.length; a++) {
                int far = 0;
                for (int b : d[a]) {
                    far = Math.max(far, b);
                }
                if (far == n) {
                    return days ? n : a;
                }
            }
        }
        return NONE;
    }

    int loss(int library, int person, boolean many) {
        if (!isPerson(library, person)) {
            return NONE;
        }
        Lib l = lib(library);
        for (int reached = 0; reached < 6; reached++) {
            for (int q = 0; q < l.people(); q++) {
                int got = 0;
                for (int b = 0; b < l.people(); b++) {
                    got += b != person && ways(l, q)[person][b] <= 9 ? 1 : 0;
                }
                if (q != person && got == reached) {
                    return many ? reached : q;
                }
            }
        }
        return NONE;
    }

    int rumour(int library, int person, int n) {
        if (!isPerson(library, person) || n < NONE || n > 20) {
            return -2;
        }
        State s = new State(lib(library));
        s.heads.get(person).put(77, 0);
        for (int day = 0; day <= 99; day++) {
            int known = 0;
            for (int p = 0; p < s.heads.size(); p++) {
                known |= s.heads.get(p).isEmpty() ? 0 : 1 << p;
            }
            if (day == n) {
                return known;
            }
            if (n == NONE && known == 0) {
                return day;
            }
            s.night();
        }
        return NONE;
    }

    /** Null: as -2 of fits(). */
    private List<Integer> fitting(int library, int log) {
        if (lib(library) == null || log(log) == null) {
            return null;
        }
        List<Integer> fitting = new ArrayList<>();
        for (int[] fact : log(log)) {
            if (!isPerson(library, fact[1])) {
                return null;
            }
        }
        int[][] d = ways(lib(library), NONE);
        for (int code = 0; code < 10 * d.length; code++) {
            int p = code / 10;
            int days = code % 10;
            if (log(log).stream().allMatch(fact -> d[p][fact[1]] <= days == (fact[0] == 0))) {
                fitting.add(code);
            }
        }
        return fitting;
    }

    private long knowsIn(int library, List<Integer> fitting, int person) {
        int[][] d = ways(lib(library), NONE);
        return fitting.stream().filter(code -> d[code / 10][person] <= code % 10).count();
    }

    int fits(int library, int log, int what) {
        List<Integer> fitting = fitting(library, log);
        if (fitting == null) {
            return -2;
        }
        Set<Integer> who = new TreeSet<>();
        fitting.forEach(code -> who.add(code / 10));
        switch (what) {
            case 0: return fitting.size();
            case 1: return who.size() == 1 ? who.iterator().next() : NONE;
            case 2: {
                TreeSet<Long> ways = new TreeSet<>();
                for (int p = 0; p < lib(library).people(); p++) {
                    long knows = knowsIn(library, fitting, p);
                    ways.add(10 * Math.max(knows, fitting.size() - knows) + p);
                }
                return fitting.isEmpty() ? NONE : (int) (ways.first() % 10);
            }
            default: return what < 10 || what - 10 >= fitting.size() ? -2 : fitting.get(what - 10);
        }
    }

    long odds(int library, int log, int person, boolean under) {
        List<Integer> fitting = fitting(library, log);
        if (fitting == null || fitting.isEmpty() || !isPerson(library, person)) {
            return NONE;
        }
        return term(BigInteger.valueOf(knowsIn(library, fitting, person)), BigInteger.valueOf(fitting.size()), under);
    }

    int ago(int library, int log, boolean most) {
        List<Integer> fitting = fitting(library, log);
        if (fitting == null || fitting.isEmpty()) {
            return NONE;
        }
        TreeSet<Integer> days = new TreeSet<>();
        fitting.forEach(code -> days.add(code % 10));
        return most ? days.last() : days.first();
    }
}
