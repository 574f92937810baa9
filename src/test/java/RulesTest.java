import java.lang.management.ManagementFactory;
import java.lang.reflect.Constructor;
import java.lang.reflect.Field;
import java.lang.reflect.Method;
import java.lang.reflect.Modifier;
import java.nio.file.Files;
import java.nio.file.Path;
import java.util.Arrays;
import java.util.Set;
import java.util.TreeSet;
import java.util.regex.Matcher;
import java.util.regex.Pattern;

/** The document's face, what ../shared/LANGUAGE.md leaves out, and that calls make no objects. */
public final class RulesTest {
    private static int wrong = 0;

    private static final String[] FACE = {
        "int feed(int,int,int,int,int)", "int end(int)", "int text(int,int)", "int fault(int)", "int library(int,int)",
        "int deed(int,int,int)", "int till(int,int)", "int state(int,int,int,int)", "int himself(int,int,int)",
        "int bait(int,int,int,int)", "int order(int,int,boolean)", "int news(int,int,int)", "int tellers(int,int,boolean)",
        "int game(int,int,boolean)", "long colds(int,int,int,int,boolean)", "int fact(int,int,int)", "int fits(int,int,int)",
        "int drawn(int,int,int,int)", "int shelf(int,int)", "int lessons(int,int,int)", "int feast(int,int,int,int)",
        "int sweet(int,int,int)", "int ladder(int,int)", "int dim(int,int)", "int ban(int,boolean)",
        "long share(int,int,boolean)", "int rumour(int,int,int)", "int between(int,int,int)", "int centre(int,boolean)",
        "int loss(int,int,boolean)", "long waits(int,int,int,boolean)", "int after(int,int,int)",
        "long odds(int,int,int,boolean)", "int ago(int,int,boolean)", "int count(int)", "boolean image(int)", "boolean again(int)"};

    private static void want(boolean holds, String what) {
        if (!holds) {
            wrong++;
            System.out.println("RulesTest: " + what);
        }
    }

    public static void main(String[] args) throws Exception {
        face();
        source(Files.readString(Path.of("src/main/java/OneReader.java")));
        noObjects();
        System.out.println(wrong == 0 ? "RulesTest: all rules kept" : "RulesTest: " + wrong + " wrong");
        if (wrong != 0) {
            System.exit(1);
        }
    }

    private static void face() {
        Set<String> shown = new TreeSet<>();
        Set<String> publicNames = new TreeSet<>();
        for (Method m : OneReader.class.getDeclaredMethods()) {
            if (Modifier.isPublic(m.getModifiers())) {
                StringBuilder s = new StringBuilder(m.getReturnType() + " " + m.getName() + "(");
                for (int i = 0; i < m.getParameterCount(); i++) {
                    s.append(i == 0 ? "" : ",").append(m.getParameterTypes()[i]);
                }
                shown.add(s.append(")").toString());
                publicNames.add(m.getName());
            }
        }
        want(shown.equals(new TreeSet<>(Arrays.asList(FACE))), "the face is " + shown);
        for (Method m : OneReader.class.getDeclaredMethods()) {
            boolean isPrivate = Modifier.isPrivate(m.getModifiers());
            want(isPrivate || publicNames.contains(m.getName()), m + " is not private");
            want(!isPrivate || !publicNames.contains(m.getName()), m + " bears a public name");
        }
        for (Field f : OneReader.class.getDeclaredFields()) {
            want(Modifier.isPrivate(f.getModifiers()) || f.getName().equals("NONE"), f + " is not private");
        }
        Constructor<?>[] makers = OneReader.class.getDeclaredConstructors();
        want(makers.length == 1 && Modifier.isPublic(makers[0].getModifiers()) && makers[0].getParameterCount() == 0, "constructors");
        want(Modifier.isFinal(OneReader.class.getModifiers()) && Modifier.isPublic(OneReader.class.getModifiers()), "public final");
        Class<?>[] inside = OneReader.class.getDeclaredClasses();
        want(inside.length < 12, "more than twelve classes");
        for (Class<?> c : inside) {
            want(Modifier.isStatic(c.getModifiers()) && !Modifier.isPublic(c.getModifiers()), c + " is not static, or public");
            long fields = Arrays.stream(c.getDeclaredFields()).filter(f -> !Modifier.isStatic(f.getModifiers())).count();
            want(fields <= 20, c + " has " + fields + " fields");
            for (Method m : c.getDeclaredMethods()) {
                want(!publicNames.contains(m.getName()), m + " bears a public name");
                want(m.getParameterCount() <= 7, m + " takes too many");
            }
        }
    }

    private static void source(String text) {
        String code = text.replaceAll("(?s)/\\*.*?\\*/", "").replaceAll("//[^\n]*", "");
        for (String word : new String[] {"throw", "throws", "try", "catch", "synchronized", "assert", "package", "Object", "hashCode",
            "float", "double", "char\\[\\]", "Iterator", "System\\.(?!arraycopy)", "Math\\.(?!max|min|abs)", "->", "::", "protected"}) {
            Matcher m = Pattern.compile("(?<![A-Za-z])" + word + "(?![A-Za-z])").matcher(code);
            want(!m.find(), "the source has " + word);
        }
        want(text.chars().allMatch(sign -> sign == 10 || sign >= 32 && sign < 127), "a sign that is not plain");
        int length = 0;
        for (String line : code.split("\n")) {
            boolean begins = line.matches("    (    )?[a-z].*\\) \\{");
            length = begins ? 0 : length + 1;
            want(length <= 60 || !line.matches("    (    )?\\}"), "a method of " + length + " lines");
        }
    }

    /** All rows are made with the object: a call that made some would fill the room. */
    private static void noObjects() {
        com.sun.management.ThreadMXBean bean = (com.sun.management.ThreadMXBean) ManagementFactory.getThreadMXBean();
        OneReader x = new OneReader();
        String library = "chapter 1 0;chapter 2 1;chapter 3 2;chapter 4 3;chapter 5 4;chapter 6 5;chapter 7 0;chapter 8 1;leans 7 0;"
                + "lamp 12;person 9;person 8;person 7;person 6;person 5;person 4;hears 1 0;hears 2 1;hears 3 2;hears 4 3;hears 5 4;";
        Telling.tell(x, 0, -1, library);
        Telling.tell(x, 1, -1, "read 0;tell 0 0;day;day;pie 1;cold;day;skip 2;");
        Telling.tell(x, 2, -1, "knows 1;not 2;");
        int[][] tape = new int[Telling.feeds(library)][];
        for (int k = 0; k < tape.length; k++) {
            tape[k] = Telling.fives(library, k);
        }
        callAll(x, tape);
        long id = Thread.currentThread().getId();
        bean.getThreadAllocatedBytes(id);
        long before = bean.getThreadAllocatedBytes(id);
        for (int i = 0; i < 10; i++) {
            callAll(x, tape);
        }
        long made = bean.getThreadAllocatedBytes(id) - before;
        want(made < 4096, "calls made " + made + " bytes of objects");
    }

    private static void callAll(OneReader x, int[][] tape) {
        x.image(0);
        x.end(0);
        for (int[] f : tape) {
            x.feed(f[0], f[1], f[2], f[3], f[4]);
        }
        x.text(0, 0);
        x.again(0);
        x.fault(0);
        x.library(0, 10);
        x.deed(0, 0, 0);
        x.till(0, 0);
        x.state(0, 0, 8, 100);
        x.himself(0, 20, 0);
        x.bait(0, 7, 1, 0);
        x.order(0, 20, true);
        x.news(0, 0, 9);
        x.tellers(0, 2, true);
        x.game(0, 36, true);
        x.colds(0, 255, 9, 3, true);
        x.fact(0, 0, 0);
        x.fits(0, 0, 2);
        x.drawn(0, 1, 60, 0);
        for (int what = 0; what < 18; what++) {
            x.shelf(0, what);
        }
        x.lessons(0, 4, 3);
        x.feast(0, 20, 3, 0);
        x.sweet(0, 0, 20);
        x.ladder(0, 0);
        x.dim(0, 4);
        x.ban(0, true);
        x.share(0, 0, true);
        x.rumour(0, 0, -1);
        x.between(0, 0, 5);
        x.centre(0, true);
        x.loss(0, 0, true);
        x.waits(0, 255, 9, true);
        x.after(0, 0, 2);
        x.odds(0, 0, 1, true);
        x.ago(0, 0, true);
        x.count(0);
    }
}
