import java.lang.reflect.InvocationTargetException;
import java.lang.reflect.Method;
import java.util.ArrayList;
import java.util.Arrays;
import java.util.Comparator;
import java.util.List;
import java.util.Random;

/** Any call with any numbers in any state throws only what its line of the face names, and changes nothing then. */
public final class WildCallsTest {
    private static final Check CHECK = new Check();
    private static final int[] EDGES = {Integer.MIN_VALUE, -2, -1, 0, 1, 2, 5, 6, 7, 8, 9, 10, 11, 12, 13, 20, 21, 30, 31,
        40, 41, 60, 61, 99, 100, 120, 121, 700, 701, 999, 1000, 1999, 2000, Integer.MAX_VALUE};
    private static final String[] PIECES = {"person ", "mule ", "cook ", "duty ", "pace ", "rings ", "mends ", "0 ", "1 ", "30 ",
        "31 ", "60 ", "999 ", "1000 ", "12345 ", ";", ";", ";", "(", ")", "+", "-", "*", "/", "<", "=", "late ", "habit ", "way ",
        "not ", "and ", "or ", "\n", "?", "person 5 1 2;", "duty 100 3;", "mule 1 1 1;", "rings late/2;", "mends way;", "cook 1 2 3;"};

    /** All that count, person and duty tell. */
    private static String face(LateRingers x) {
        StringBuilder s = new StringBuilder();
        for (int what = 0; what <= 12; what++) {
            s.append(x.count(what)).append(' ');
        }
        for (int p = 0; p < x.count(0); p++) {
            for (int what = 0; what <= 6; what++) {
                s.append(x.person(p, what)).append(' ');
            }
        }
        for (int d = 0; d < x.count(1); d++) {
            for (int what = 0; what <= 2; what++) {
                s.append(x.duty(d, what)).append(' ');
            }
        }
        return s.append(x.fault()).toString();
    }

    private static String wildText(Random r) {
        StringBuilder s = new StringBuilder();
        int many = r.nextInt(60);
        for (int i = 0; i < many; i++) {
            s.append(PIECES[r.nextInt(PIECES.length)]);
        }
        return s.toString();
    }

    private static Object[] wildArguments(Random r, Method m) {
        Object[] arguments = new Object[m.getParameterCount()];
        for (int i = 0; i < arguments.length; i++) {
            if (m.getParameterTypes()[i] == boolean.class) {
                arguments[i] = r.nextBoolean();
            } else if (r.nextInt(3) == 0) {
                arguments[i] = EDGES[r.nextInt(EDGES.length)];
            } else {
                arguments[i] = r.nextInt(r.nextBoolean() ? 4 : 41);
            }
        }
        return arguments;
    }

    private static void call(LateRingers x, Method m, Object[] arguments) throws IllegalAccessException {
        String name = m.getName() + Arrays.toString(arguments);
        String ahead = face(x);
        try {
            m.invoke(x, arguments);
            CHECK.yes(name, true);
        } catch (InvocationTargetException e) {
            Throwable thrown = e.getCause();
            boolean isNamed = Arrays.asList(m.getExceptionTypes()).contains(thrown.getClass());
            CHECK.yes(name + " threw " + thrown, isNamed);
            CHECK.yes(name + " changed something and threw", ahead.equals(face(x)));
        }
    }

    public static void main(String[] args) throws IllegalAccessException {
        List<Method> methods = new ArrayList<>();
        for (Method m : LateRingers.class.getDeclaredMethods()) {
            if (java.lang.reflect.Modifier.isPublic(m.getModifiers())) {
                methods.add(m);
            }
        }
        methods.sort(Comparator.comparing(Method::getName));
        for (int seed = 1; seed <= 150; seed++) {
            Random r = new Random(seed);
            LateRingers x = new LateRingers();
            for (int i = 0; i < 400; i++) {
                int kind = r.nextInt(30);
                if (kind == 0 || kind == 1) {
                    String text = kind == 0 ? wildText(r) : Model.text(Model.world(r));
                    x.town(0);
                    Check.town(x, text.length() > 700 ? text.substring(0, 700) : text);
                } else {
                    Method m = methods.get(r.nextInt(methods.size()));
                    call(x, m, wildArguments(r, m));
                }
            }
        }
        CHECK.end();
    }
}
