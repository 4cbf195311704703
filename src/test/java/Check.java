import java.nio.charset.StandardCharsets;
import java.util.NoSuchElementException;

/** What the tests have in common: counting wrong answers, feeding a text, naming what a call throws. */
final class Check {
    static final String NO_SUCH = "NoSuchElementException";
    static final String ILLEGAL = "IllegalArgumentException";

    private int wrong = 0;
    private int looked = 0;

    interface Call {
        long answer();
    }

    void same(String what, long got, long want) {
        looked++;
        if (got != want) {
            wrong++;
            if (wrong <= 40) {
                System.out.println(what + " answered " + got + ", due is " + want);
            }
        }
    }

    void yes(String what, boolean got) {
        same(what, got ? 1 : 0, 1);
    }

    void no(String what, boolean got) {
        same(what, got ? 1 : 0, 0);
    }

    void refuses(String what, String exception, Call call) {
        looked++;
        String thrown = "nothing";
        try {
            call.answer();
        } catch (NoSuchElementException | IllegalArgumentException e) {
            thrown = e.getClass().getSimpleName();
        }
        if (!thrown.equals(exception)) {
            wrong++;
            System.out.println(what + " threw " + thrown + ", due is " + exception);
        }
    }

    void end() {
        System.out.println(looked + " answers, " + wrong + " wrong");
        if (wrong != 0) {
            System.exit(1);
        }
    }

    static byte[] bytes(String text) {
        return text.getBytes(StandardCharsets.ISO_8859_1);
    }

    /** Feeds the text, with blanks behind it up to twenty bytes. */
    static void feed(LateRingers x, byte[] text) {
        for (int at = 0; at < text.length; at += 20) {
            int[] five = new int[5];
            for (int i = 0; i < 20; i++) {
                int b = at + i < text.length ? text[at + i] & 255 : 32;
                five[i / 4] = five[i / 4] << 8 | b;
            }
            x.feed(five[0], five[1], five[2], five[3], five[4]);
        }
    }

    static int town(LateRingers x, String text) {
        byte[] all = bytes(text);
        feed(x, all);
        return x.town(all.length);
    }

    static LateRingers of(String text) {
        LateRingers x = new LateRingers();
        int fault = town(x, text);
        if (fault != 0) {
            throw new IllegalStateException("fault " + fault + " at " + x.fault() + " of " + text);
        }
        return x;
    }
}
