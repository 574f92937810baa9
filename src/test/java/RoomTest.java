import java.lang.management.ManagementFactory;
import java.lang.reflect.Array;
import java.lang.reflect.Field;
import java.lang.reflect.Modifier;
import java.util.ArrayDeque;
import java.util.ArrayList;
import java.util.Deque;
import java.util.IdentityHashMap;
import java.util.List;
import java.util.Map;

/** All calls of a run live in one room: a new object takes little of it, and calls make no objects. */
public final class RoomTest {
    private static int wrong = 0;

    private static void want(boolean holds, String what) {
        if (!holds) {
            wrong++;
            System.out.println("RoomTest: " + what);
        }
    }

    public static void main(String[] args) throws Exception {
        newObject();
        noObjects();
        System.out.println(wrong == 0 ? "RoomTest: there is room" : "RoomTest: " + wrong + " wrong");
        if (wrong != 0) {
            System.exit(1);
        }
    }

    /** Objects and arrays, and their fields and elements, that a new object is made of. */
    private static void newObject() throws IllegalAccessException {
        Map<Object, Boolean> seen = new IdentityHashMap<>();
        Deque<Object> next = new ArrayDeque<>();
        next.add(new OneReader());
        long cells = 0;
        while (!next.isEmpty()) {
            Object one = next.remove();
            if (seen.put(one, true) != null) {
                continue;
            }
            List<Object> parts = one.getClass().isArray() ? elements(one) : fields(one);
            cells += parts.size();
            for (Object part : parts) {
                if (part != null && !(part instanceof Number) && !(part instanceof Boolean)) {
                    next.add(part);
                }
            }
        }
        // a run of 512 calls may make an object by each
        want(seen.size() <= 600_000 / 512, "a new object is " + seen.size() + " objects and arrays");
        want(cells <= 7_300_000 / 512, "a new object is " + cells + " fields and elements");
    }

    private static List<Object> elements(Object row) {
        List<Object> parts = new ArrayList<>();
        for (int i = 0; i < Array.getLength(row); i++) {
            parts.add(Array.get(row, i));
        }
        return parts;
    }

    private static List<Object> fields(Object one) throws IllegalAccessException {
        List<Object> parts = new ArrayList<>();
        for (Field f : one.getClass().getDeclaredFields()) {
            if (!Modifier.isStatic(f.getModifiers())) {
                f.setAccessible(true);
                parts.add(f.get(one));
            }
        }
        return parts;
    }

    /** All rows are made with the object: a call that made some would fill the room. */
    private static void noObjects() {
        com.sun.management.ThreadMXBean bean = (com.sun.management.ThreadMXBean) ManagementFactory.getThreadMXBean();
        OneReader x = new OneReader();
        String library = "chapter 1 0;chapter 2 1;chapter 3 2;chapter 4 3;chapter 5 4;chapter 6 5;chapter 7 0;chapter 8 1;leans 7 0;"
                + "lamp 12;person 9;person 8;person 7;person 6;person 5;person 4;hears 1 0;hears 2 1;hears 3 2;hears 4 3;hears 5 4;";
        Telling.tell(x, 0, -1, library);
        Telling.tell(x, 1, -1, "read 0;tell 0 0;day;day;pie 1;cold;day;skip 2;");
        Telling.tell(x, 2, -1, "knows 1;not 2;");
        int[][] tape = new int[Telling.feeds(library)][];
        for (int k = 0; k < tape.length; k++) {
            tape[k] = Telling.fives(library, k);
        }
        callAll(x, tape);
        long id = Thread.currentThread().getId();
        bean.getThreadAllocatedBytes(id);
        long before = bean.getThreadAllocatedBytes(id);
        for (int i = 0; i < 10; i++) {
            callAll(x, tape);
        }
        long made = bean.getThreadAllocatedBytes(id) - before;
        want(made < 4096, "calls made " + made + " bytes of objects");
    }

    private static void callAll(OneReader x, int[][] tape) {
        x.image(0);
        x.end(0);
        for (int[] f : tape) {
            x.feed(f[0], f[1], f[2], f[3], f[4]);
        }
        x.text(0, 0);
        x.again(0);
        x.fault(0);
        x.library(0, 10);
        x.deed(0, 0, 0);
        x.till(0, 0);
        x.state(0, 0, 8, 100);
        x.himself(0, 20, 0);
        x.bait(0, 7, 1, 0);
        x.order(0, 20, true);
        x.news(0, 0, 9);
        x.tellers(0, 2, true);
        x.game(0, 36, true);
        x.colds(0, 255, 9, 3, true);
        x.fact(0, 0, 0);
        x.fits(0, 0, 2);
        x.drawn(0, 1, 60, 0);
        for (int what = 0; what < 18; what++) {
            x.shelf(0, what);
        }
        x.lessons(0, 4, 3);
        x.feast(0, 20, 3, 0);
        x.sweet(0, 0, 20);
        x.ladder(0, 0);
        x.dim(0, 4);
        x.ban(0, true);
        x.share(0, 0, true);
        x.rumour(0, 0, -1);
        x.between(0, 0, 5);
        x.centre(0, true);
        x.loss(0, 0, true);
        x.waits(0, 255, 9, true);
        x.after(0, 0, 2);
        x.odds(0, 0, 1, true);
        x.ago(0, 0, true);
        x.count(0);
    }
}
