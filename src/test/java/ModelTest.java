import java.util.ArrayList;
import java.util.List;
import java.util.Random;

/** Random runs of 512 calls, each answer held against the Model's. */
public final class ModelTest {
    private static final int CALLS = 512;
    private static int wrong = 0;
    private static long asked = 0;

    private final Random random;
    private final long run;
    private final OneReader x = new OneReader();
    private final Model model = new Model();
    private final List<String> calls = new ArrayList<>();

    private ModelTest(long run) {
        this.run = run;
        this.random = new Random(run);
    }

    public static void main(String[] args) {
        int runs = args.length > 0 ? Integer.parseInt(args[0]) : 400;
        int first = args.length > 1 ? Integer.parseInt(args[1]) : 1;
        for (int run = first; run < first + runs && wrong < 20; run++) {
            new ModelTest(run).go();
        }
        System.out.println(wrong == 0 ? "ModelTest: " + asked + " answers as due" : "ModelTest: " + wrong + " wrong");
        if (wrong != 0) {
            System.exit(1);
        }
    }

    private boolean due(String call, long got, long want) {
        asked++;
        calls.add(call + " = " + got);
        if (got != want) {
            wrong++;
            System.out.println("run " + run + ", call " + calls.size() + ": " + call + " answered " + got + ", due is " + want);
        }
        return got == want;
    }

    private void go() {
        tell(0, library());
        while (calls.size() < CALLS && wrong < 20) {
            int choice = random.nextInt(24);
            if (choice == 0) {
                tellSomething();
            } else if (choice == 1) {
                askTape();
            } else if (choice <= 6) {
                askTold();
            } else if (choice <= 13) {
                askReader();
            } else if (choice <= 18) {
                askPeople();
            } else {
                askPlans();
            }
        }
    }

    private boolean flip() {
        return random.nextBoolean();
    }

    /** A number of a range, now and then one beside it or one far away. */
    private int within(int least, int most) {
        switch (random.nextInt(24)) {
            case 0: return least - 1;
            case 1: return most + 1;
            case 2: return least;
            case 3: return most;
            case 4: return random.nextInt(6) > 0 ? least : random.nextInt();
            case 5: return random.nextInt(6) > 0 ? most : flip() ? Integer.MIN_VALUE : Integer.MAX_VALUE;
            default: return least + random.nextInt(most - least + 1);
        }
    }

    private int number() {
        return random.nextInt(12) == 0 ? within(0, 1) : random.nextInt(Math.max(1, model.count(0)));
    }

    private int yearNumber() {
        return random.nextInt(12) == 0 ? within(0, 1) : random.nextInt(Math.max(1, model.count(1)));
    }

    private int logNumber() {
        return random.nextInt(12) == 0 ? within(0, 1) : random.nextInt(Math.max(1, model.count(2)));
    }

    private int chapter(int l) {
        return within(0, Math.max(0, model.library(l, 0) - 1));
    }

    private int person(int l) {
        return within(0, Math.max(0, model.library(l, 1) - 1));
    }

    private int some(int l) {
        int all = (1 << Math.max(0, model.library(l, 0))) - 1;
        return random.nextInt(8) == 0 ? within(0, all) : random.nextInt(all + 1);
    }

    // ---- texts

    private String library() {
        StringBuilder s = new StringBuilder();
        int chapters = random.nextInt(9);
        int mostHours = 1 + random.nextInt(9);
        int topics = 1 + random.nextInt(6);
        for (int c = 0; c < chapters; c++) {
            s.append("chapter ").append(1 + random.nextInt(mostHours)).append(' ').append(random.nextInt(topics)).append(';');
        }
        int leans = chapters > 1 ? random.nextInt(chapters * 2) : 0;
        for (int i = 0; i < leans; i++) {
            int c = 1 + random.nextInt(chapters - 1);
            s.append("leans ").append(c).append(' ').append(random.nextInt(c)).append(';');
        }
        for (int i = random.nextInt(7); i > 0; i--) {
            s.append("likes ").append(random.nextInt(6)).append(' ').append(flip() ? random.nextInt(3) : random.nextInt(10)).append(';');
        }
        if (random.nextInt(4) > 0) {
            s.append("lamp ").append(1 + random.nextInt(12)).append(';');
        }
        int people = random.nextInt(7);
        int memory = 1 + random.nextInt(9);
        for (int p = 0; p < people; p++) {
            s.append("person ").append(1 + random.nextInt(memory)).append(';');
        }
        for (int i = people > 1 ? random.nextInt(people * 2) : 0; i > 0; i--) {
            int p = random.nextInt(people);
            s.append("hears ").append(p).append(' ').append((p + 1 + random.nextInt(people - 1)) % people).append(';');
        }
        return s.toString();
    }

    private String year() {
        Model.Lib lib = model.anyLib(random.nextInt(Math.max(1, model.count(0))));
        Model.State state = lib == null ? null : new Model.State(lib);
        int many = random.nextInt(8) == 0 ? 39 + random.nextInt(3) : random.nextInt(41);
        StringBuilder s = new StringBuilder();
        for (int i = 0; i < many; i++) {
            int[] deed = anyDeed();
            for (int tries = 0; state != null && tries < 30 && !state.can(deed); tries++) {
                deed = anyDeed();
            }
            s.append(deedText(deed));
            if (state != null && state.can(deed)) {
                state.act(deed);
            }
        }
        return s.toString();
    }

    private int[] anyDeed() {
        int kind = random.nextInt(10);
        switch (kind) {
            case 0: case 1: case 2: return new int[] {0, random.nextInt(8)};
            case 3: return new int[] {random.nextInt(3) > 0 ? 0 : 1, random.nextInt(8)};
            case 4: return new int[] {2, random.nextInt(6)};
            case 5: case 6: return new int[] {3, random.nextInt(8), random.nextInt(6)};
            case 7: return new int[] {random.nextInt(3) > 0 ? 5 : 4};
            default: return new int[] {5};
        }
    }

    private static String deedText(int[] deed) {
        StringBuilder s = new StringBuilder(new String[] {"read", "skip", "pie", "tell", "cold", "day"}[deed[0]]);
        for (int i = 1; i < deed.length; i++) {
            s.append(' ').append(deed[i]);
        }
        return s.append(';').toString();
    }

    private String log() {
        int people = model.library(random.nextInt(Math.max(1, model.count(0))), 1);
        StringBuilder s = new StringBuilder();
        for (int i = random.nextInt(6) == 0 ? random.nextInt(10) : random.nextInt(4); i > 0; i--) {
            int p = random.nextInt(8) == 0 ? random.nextInt(6) : random.nextInt(Math.max(1, people));
            s.append(flip() ? "knows " : "not ").append(p).append(';');
        }
        return s.toString();
    }

    /** Spoils a text a little. */
    private String spoilt(String text) {
        StringBuilder s = new StringBuilder(text);
        String[] bits = {" ", "\n", ";", "9", "0", "12", "123", "x", "#", "\u00e9", "chapter 1 1;", "person 3;", "leans 7 6;",
            "leans 3 3;", "hears 4 4;", "hears 5 6;", "hears 0 5;", "lamp 0;", "lamp 13;", "likes 6 0;", "likes 0 10;",
            "chapter 0 0;", "chapter 10 6;", "person 0;", "person 10;", "read 8;", "pie 6;", "tell 8 0;", "tell 0 6;", "skip 9;",
            "cold", "day", "knows 6;", "not 7;", "knows"};
        for (int i = 1 + random.nextInt(2); i > 0; i--) {
            int at = random.nextInt(s.length() + 1);
            if (random.nextInt(3) == 0 && at < s.length()) {
                s.deleteCharAt(at);
            } else if (flip()) {
                s.insert(at, bits[random.nextInt(bits.length)]);
            } else {
                // between two lines the text may go on
                int line = s.indexOf(";", at) + 1;
                s.insert(line, bits[random.nextInt(bits.length)]);
            }
        }
        return s.toString();
    }

    /** The same text, with blanks where they may be. */
    private String airy(String text) {
        StringBuilder s = new StringBuilder();
        for (char sign : text.toCharArray()) {
            boolean may = sign == ' ' || sign == ';';
            if (may && random.nextInt(6) == 0) {
                s.append(flip() ? " " : "\n");
            }
            s.append(sign == ' ' && random.nextInt(6) == 0 ? '\n' : sign);
        }
        return s.toString();
    }

    private void tellSomething() {
        int sort = random.nextInt(3);
        String text = sort == 0 ? library() : sort == 1 ? year() : log();
        if (random.nextInt(4) == 0) {
            text = spoilt(text);
        }
        if (random.nextInt(5) == 0) {
            text = airy(text);
        }
        tell(sort, text);
    }

    private void tell(int sort, String text) {
        String cut = text.length() > 600 ? text.substring(0, 600) : text;
        if (random.nextInt(10) > 0) {
            due("end(0)", x.end(0), model.end(0));
        }
        for (int k = 0; k < Telling.feeds(cut); k++) {
            feed(Telling.fives(cut, k));
        }
        due("end(" + cut.length() + ")", x.end(cut.length()), model.end(cut.length()));
        int told = random.nextInt(20) == 0 ? within(0, 2) : sort;
        int many = model.count(told);
        int at = random.nextInt(20) == 0 ? within(0, 1) : many == 0 || many == 1 && flip() ? -1 : random.nextInt(Math.max(1, many));
        due("text(" + told + ", " + at + ")", x.text(told, at), model.text(told, at));
        for (int what = -1; what < 3; what++) {
            due("fault(" + what + ")", x.fault(what), model.fault(what));
        }
    }

    private void feed(int[] f) {
        due("feed(" + f[0] + ", " + f[1] + ", " + f[2] + ", " + f[3] + ", " + f[4] + ")",
                x.feed(f[0], f[1], f[2], f[3], f[4]), model.feed(f[0], f[1], f[2], f[3], f[4]));
    }

    private void askTape() {
        int k = within(0, 2);
        switch (random.nextInt(5)) {
            case 0: due("image(" + k + ")", x.image(k) ? 1 : 0, model.image(k) ? 1 : 0); break;
            case 1: due("again(" + k + ")", x.again(k) ? 1 : 0, model.again(k) ? 1 : 0); break;
            case 2: feed(new int[] {random.nextInt(), random.nextInt(), random.nextInt(), random.nextInt(), random.nextInt()}); break;
            case 3: {
                int n = within(0, 30);
                due("end(" + n + ")", x.end(n), model.end(n));
                break;
            }
            default: due("count(" + k + ")", x.count(k), model.count(k)); break;
        }
    }

    private int stateWhat() {
        switch (random.nextInt(5)) {
            case 0: return within(0, 5);
            case 1: return within(10, 15);
            case 2: return within(20, 25);
            case 3: return within(0, 150);
            default: return within(100, 147);
        }
    }

    private void askTold() {
        int l = number();
        int y = yearNumber();
        switch (random.nextInt(7)) {
            case 0: {
                int what = random.nextInt(4) == 0 ? within(0, 66) : 10 * random.nextInt(7) + random.nextInt(10);
                due("library(" + l + ", " + what + ")", x.library(l, what), model.library(l, what));
                break;
            }
            case 1: {
                int k = within(-1, Math.max(0, model.deed(y, -1, 0)));
                int what = within(0, 2);
                due("deed(" + y + ", " + k + ", " + what + ")", x.deed(y, k, what), model.deed(y, k, what));
                break;
            }
            case 2: due("till(" + l + ", " + y + ")", x.till(l, y), model.till(l, y)); break;
            case 3: {
                int what = within(0, 4);
                due("after(" + l + ", " + y + ", " + what + ")", x.after(l, y, what), model.after(l, y, what));
                break;
            }
            case 4: {
                int seed = random.nextInt();
                int n = within(0, 60);
                int what = stateWhat();
                due("drawn(" + l + ", " + seed + ", " + n + ", " + what + ")", x.drawn(l, seed, n, what), model.drawn(l, seed, n, what));
                break;
            }
            default: {
                int n = within(0, Math.max(0, model.till(l, y)));
                int what = stateWhat();
                due("state(" + l + ", " + y + ", " + n + ", " + what + ")", x.state(l, y, n, what), model.state(l, y, n, what));
                break;
            }
        }
    }

    private void askReader() {
        int l = number();
        int n = within(0, 20);
        int k = within(-1, 8);
        switch (random.nextInt(6)) {
            case 0: case 1: due("himself(" + l + ", " + n + ", " + k + ")", x.himself(l, n, k), model.himself(l, n, k)); break;
            case 2: {
                int c = chapter(l);
                int at = within(-1, 4);
                due("bait(" + l + ", " + c + ", " + n + ", " + at + ")", x.bait(l, c, n, at), model.bait(l, c, n, at));
                break;
            }
            case 3: {
                int m = within(0, 3);
                int at = within(-1, 3);
                due("feast(" + l + ", " + n + ", " + m + ", " + at + ")", x.feast(l, n, m, at), model.feast(l, n, m, at));
                break;
            }
            case 4: {
                int t = within(0, 5);
                due("sweet(" + l + ", " + t + ", " + n + ")", x.sweet(l, t, n), model.sweet(l, t, n));
                break;
            }
            default: {
                int what = random.nextInt(3) == 0 ? within(0, 17) : within(0, 7);
                due("shelf(" + l + ", " + what + ")", x.shelf(l, what), model.shelf(l, what));
                break;
            }
        }
    }

    private void askPeople() {
        int l = number();
        int g = logNumber();
        int p = person(l);
        int q = person(l);
        boolean b = flip();
        switch (random.nextInt(10)) {
            case 0: {
                int n = within(0, 9);
                due("news(" + l + ", " + p + ", " + n + ")", x.news(l, p, n), model.news(l, p, n));
                break;
            }
            case 1: {
                int n = within(0, 9);
                due("tellers(" + l + ", " + n + ", " + b + ")", x.tellers(l, n, b), model.tellers(l, n, b));
                break;
            }
            case 2: {
                int k = within(-1, 8);
                int what = within(0, 1);
                due("fact(" + g + ", " + k + ", " + what + ")", x.fact(g, k, what), model.fact(g, k, what));
                break;
            }
            case 3: case 4: {
                int what = flip() ? within(0, 2) : within(10, 10 + Math.max(0, model.fits(l, g, 0)));
                due("fits(" + l + ", " + g + ", " + what + ")", x.fits(l, g, what), model.fits(l, g, what));
                break;
            }
            case 5: {
                int n = within(-1, 20);
                due("rumour(" + l + ", " + p + ", " + n + ")", x.rumour(l, p, n), model.rumour(l, p, n));
                break;
            }
            case 6: due("between(" + l + ", " + p + ", " + q + ")", x.between(l, p, q), model.between(l, p, q)); break;
            case 7: due("centre(" + l + ", " + b + ")", x.centre(l, b), model.centre(l, b)); break;
            case 8: due("loss(" + l + ", " + p + ", " + b + ")", x.loss(l, p, b), model.loss(l, p, b)); break;
            default:
                due("odds(" + l + ", " + g + ", " + p + ", " + b + ")", x.odds(l, g, p, b), model.odds(l, g, p, b));
                due("ago(" + l + ", " + g + ", " + b + ")", x.ago(l, g, b), model.ago(l, g, b));
                break;
        }
    }

    private void askPlans() {
        int l = number();
        boolean b = flip();
        int h = flip() ? within(0, 72) : within(0, 20);
        switch (random.nextInt(9)) {
            case 0: due("order(" + l + ", " + h + ", " + b + ")", x.order(l, h, b), model.order(l, h, b)); break;
            case 1: due("game(" + l + ", " + h + ", " + b + ")", x.game(l, h, b), model.game(l, h, b)); break;
            case 2: {
                int n = within(1, 9);
                int p = within(0, 10);
                int c = some(l);
                due("colds(" + l + ", " + c + ", " + n + ", " + p + ", " + b + ")", x.colds(l, c, n, p, b), model.colds(l, c, n, p, b));
                break;
            }
            case 3: {
                int p = within(0, 9);
                int c = some(l);
                due("waits(" + l + ", " + c + ", " + p + ", " + b + ")", x.waits(l, c, p, b), model.waits(l, c, p, b));
                break;
            }
            case 4: {
                int t = within(0, 5);
                due("share(" + l + ", " + t + ", " + b + ")", x.share(l, t, b), model.share(l, t, b));
                break;
            }
            case 5: {
                int n = within(1, 4);
                int k = within(-1, 3);
                due("lessons(" + l + ", " + n + ", " + k + ")", x.lessons(l, n, k), model.lessons(l, n, k));
                break;
            }
            case 6: {
                int k = within(-1, 8);
                due("ladder(" + l + ", " + k + ")", x.ladder(l, k), model.ladder(l, k));
                break;
            }
            case 7: {
                int n = flip() ? within(1, 20) : within(1, 6);
                due("dim(" + l + ", " + n + ")", x.dim(l, n), model.dim(l, n));
                break;
            }
            default: due("ban(" + l + ", " + b + ")", x.ban(l, b), model.ban(l, b)); break;
        }
    }
}
