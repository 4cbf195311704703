import java.lang.reflect.InvocationTargetException;
import java.lang.reflect.Method;
import java.util.ArrayList;
import java.util.Arrays;
import java.util.Comparator;
import java.util.List;
import java.util.Random;

/** Any call with any numbers in any state throws only what its line of the face names, and changes nothing then. */
public final class WildCallsTest {
    private static final Check CHECK = new Check();
    /** Behind these nothing is promised; so many are left for a last text and for the face. */
    private static final int MOST_CALLS = 512;
    private static final int FEWEST_LEFT = 130;
    private static final int[] EDGES = {Integer.MIN_VALUE, -2, -1, 0, 1, 2, 5, 6, 7, 8, 9, 10, 11, 12, 13, 20, 21, 30, 31,
        40, 41, 60, 61, 99, 100, 120, 121, 700, 701, 999, 1000, 1999, 2000, Integer.MAX_VALUE};
    private static final String[] PIECES = {"person ", "mule ", "cook ", "duty ", "pace ", "rings ", "mends ", "0 ", "1 ", "30 ",
        "31 ", "60 ", "999 ", "1000 ", "12345 ", ";", ";", ";", "(", ")", "+", "-", "*", "/", "<", "=", "late ", "habit ", "way ",
        "not ", "and ", "or ", "\n", "?", "person 5 1 2;", "duty 100 3;", "mule 1 1 1;", "rings late/2;", "mends way;", "cook 1 2 3;"};

    /** All that count, person and duty tell. */
    private static String face(LateRingers x) {
        StringBuilder s = new StringBuilder();
        for (int what = 0; what <= 12; what++) {
            s.append(x.count(what)).append(' ');
        }
        for (int p = 0; p < x.count(0); p++) {
            for (int what = 0; what <= 6; what++) {
                s.append(x.person(p, what)).append(' ');
            }
        }
        for (int d = 0; d < x.count(1); d++) {
            for (int what = 0; what <= 2; what++) {
                s.append(x.duty(d, what)).append(' ');
            }
        }
        return s.append(x.fault()).toString();
    }

    private static String wildText(Random r) {
        StringBuilder s = new StringBuilder();
        int many = r.nextInt(60);
        for (int i = 0; i < many; i++) {
            s.append(PIECES[r.nextInt(PIECES.length)]);
        }
        return s.toString();
    }

    private static Object[] wildArguments(Random r, Method m) {
        Object[] arguments = new Object[m.getParameterCount()];
        for (int i = 0; i < arguments.length; i++) {
            if (m.getParameterTypes()[i] == boolean.class) {
                arguments[i] = r.nextBoolean();
            } else if (r.nextInt(3) == 0) {
                arguments[i] = EDGES[r.nextInt(EDGES.length)];
            } else {
                arguments[i] = r.nextInt(r.nextBoolean() ? 4 : 41);
            }
        }
        return arguments;
    }

    /** Whether the call answered; what it throws must be named by its line of the face. */
    private static boolean answers(LateRingers x, Method m, Object[] arguments) throws IllegalAccessException {
        String name = m.getName() + Arrays.toString(arguments);
        try {
            m.invoke(x, arguments);
            return true;
        } catch (InvocationTargetException e) {
            Throwable thrown = e.getCause();
            boolean isNamed = Arrays.asList(m.getExceptionTypes()).contains(thrown.getClass());
            CHECK.yes(name + " threw " + thrown, isNamed);
            return false;
        }
    }

    /** A twin is given only the calls that answer: behind all of them both must look the same. */
    private static void run(int seed, List<Method> methods) throws IllegalAccessException {
        Random r = new Random(seed);
        LateRingers x = new LateRingers();
        LateRingers twin = new LateRingers();
        int calls = 0;
        while (calls < MOST_CALLS - FEWEST_LEFT) {
            int kind = r.nextInt(30);
            if (kind == 0 || kind == 1) {
                String text = kind == 0 ? wildText(r) : Model.text(Model.world(r));
                text = text.length() > 700 ? text.substring(0, 700) : text;
                x.town(0);
                twin.town(0);
                CHECK.same("town of a twin", Check.town(x, text), Check.town(twin, text));
                calls += 2 + (text.length() + 19) / 20;
            } else {
                Method m = methods.get(r.nextInt(methods.size()));
                Object[] arguments = wildArguments(r, m);
                if (answers(x, m, arguments)) {
                    CHECK.yes("a twin answers " + m.getName(), answers(twin, m, arguments));
                }
                calls++;
            }
        }
        CHECK.yes("a call that throws changes nothing, run " + seed, face(x).equals(face(twin)));
    }

    public static void main(String[] args) throws IllegalAccessException {
        List<Method> methods = new ArrayList<>();
        for (Method m : LateRingers.class.getDeclaredMethods()) {
            if (java.lang.reflect.Modifier.isPublic(m.getModifiers())) {
                methods.add(m);
            }
        }
        methods.sort(Comparator.comparing(Method::getName));
        for (int seed = 1; seed <= 300; seed++) {
            run(seed, methods);
        }
        CHECK.end();
    }
}
