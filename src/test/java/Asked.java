import java.lang.reflect.Method;
import java.util.HashMap;
import java.util.Map;

/** One object of the class, told texts and asked by rows such as "himself 0 21 N = N" (N: NONE). */
final class Asked {
    private static final int NONE = -1;
    private static final int CALLS = 512;
    private static final Map<String, Method> FACE = face();

    final OneReader x = new OneReader();
    private int calls = 0;

    private static Map<String, Method> face() {
        Map<String, Method> face = new HashMap<>();
        for (Method m : OneReader.class.getMethods()) {
            if (m.getDeclaringClass() == OneReader.class) {
                face.put(m.getName(), m);
            }
        }
        return face;
    }

    static int takes(String name) {
        return FACE.get(name).getParameterCount();
    }

    static Asked on(String library) {
        return new Asked().library(library);
    }

    Asked library(String text) {
        return tell(0, text);
    }

    Asked year(String text) {
        return tell(1, text);
    }

    Asked log(String text) {
        return tell(2, text);
    }

    /** A further text that must be good. */
    private Asked tell(int sort, String text) {
        int many = x.count(sort);
        tape(text);
        Sentence.due("text of '" + text + "'", x.text(sort, NONE), many);
        called(2);
        return this;
    }

    Asked tape(String text) {
        Telling.tape(x, text);
        called(Telling.feeds(text) + 2);
        return this;
    }

    private void called(int times) {
        calls += times;
        if (calls > CALLS) {
            throw new IllegalStateException("an object is used for " + CALLS + " calls at most");
        }
    }

    Asked asks(String... rows) {
        for (String row : rows) {
            String[] sides = row.split(" = ");
            Sentence.due(sides[0], answer(sides[0]), word(sides[1].trim()));
        }
        return this;
    }

    String answer(String call) {
        String[] words = call.trim().split(" +");
        called(1);
        Method m = FACE.get(words[0]);
        Class<?>[] kinds = m.getParameterTypes();
        if (kinds.length != words.length - 1) {
            throw new IllegalStateException(words[0] + " takes " + kinds.length);
        }
        Object[] values = new Object[kinds.length];
        for (int i = 0; i < kinds.length; i++) {
            String w = word(words[i + 1]);
            if (kinds[i] == boolean.class) {
                values[i] = w.equals("true");
            } else {
                values[i] = (int) (long) Long.decode(w);
            }
        }
        try {
            return String.valueOf(m.invoke(x, values));
        } catch (ReflectiveOperationException e) {
            return "an exception: " + e.getCause();
        }
    }

    private static String word(String w) {
        switch (w) {
            case "N":
                return Integer.toString(NONE);
            case "MAX":
                return Integer.toString(Integer.MAX_VALUE);
            case "MIN":
                return Integer.toString(Integer.MIN_VALUE);
            default:
                return w;
        }
    }
}
