import java.io.IOException;
import java.lang.reflect.InvocationTargetException;
import java.lang.reflect.Method;
import java.nio.file.Files;
import java.nio.file.Path;
import java.util.ArrayList;
import java.util.Arrays;
import java.util.HashMap;
import java.util.List;
import java.util.Map;
import java.util.Set;

/**
 * The document as a list of sentences that tests belong to. A test opens a part, says the words that it stands for
 * (they must be there, and something must be tested under them), and makes calls that are written as in the issues.
 * In the end no word of an opened part may be left that no test has said.
 */
final class Book {
    static final int NONE = LateRingers.NONE;
    static final int OF_TEXTS = 0;
    static final int OF_ACTS = 1;
    static final int OF_SEEN = 2;
    /** Behind that many calls nothing is promised of an object. */
    private static final int MOST_CALLS = 512;
    /** More than all calls by which a twin is looked at. */
    private static final int LOOKS = 250;
    private static final int FIRST_STATUS = 10;
    private static final Set<String> CHANGING = Set.of("feed", "town", "days", "hurry", "ill", "appoint", "due", "undo",
        "see", "forget", "image", "restore");

    private final Check check = new Check();
    private final Map<String, Method> face = new HashMap<>();
    private final String doc;
    private final boolean[] isSaid;
    private final boolean[] isOpened;
    private int from = 0;
    private int to = 0;
    private String title = "";
    private String words = "";
    private int tested = 0;
    private LateRingers x = new LateRingers();
    /** All calls that x was given. */
    private final List<String> run = new ArrayList<>();

    Book() throws IOException {
        doc = Files.readString(Path.of("../shared/DOC.md"));
        isSaid = new boolean[doc.length()];
        isOpened = new boolean[doc.length()];
        for (Method m : LateRingers.class.getDeclaredMethods()) {
            face.put(m.getName(), m);
        }
        // the marks of a block are no words of the document
        for (int at = doc.indexOf("```text"); at >= 0; at = doc.indexOf("```text", at + 1)) {
            Arrays.fill(isSaid, at, at + 7, true);
        }
    }

    // ---- the document

    /** The words from one mark up to another one are to be tested now; the first line, if it is a heading, is not. */
    void part(String name, String first, String behind) {
        closeWords();
        title = name;
        words = "";
        from = doc.indexOf(first);
        to = doc.indexOf(behind, from + 1);
        check.yes(name + " is a part of the document", from >= 0 && to > from);
        from = Math.max(0, from) + first.length();
        to = Math.max(from, to);
        Arrays.fill(isOpened, from, to, true);
    }

    /** A promise: its heading and what its code says are tested by FaceTest. */
    void promise(int number, String name) {
        String heading = "## Promise " + number + ": " + name + "\n";
        part("Promise " + number, heading, number == 48 ? "## Not promised" : "## Promise " + (number + 1) + ":");
        Arrays.fill(isSaid, from, Math.max(from, doc.indexOf("`: ", from)), true);
    }

    /** What is tested from here on belongs to these words of the part. */
    void says(String itsWords) {
        closeWords();
        words = itsWords;
        int at = doc.indexOf(itsWords, from);
        while (at >= 0 && at < to && isSaid[at]) {
            at = doc.indexOf(itsWords, at + 1);
        }
        boolean isThere = at >= 0 && at + itsWords.length() <= to;
        check.yes(title + " says '" + itsWords + "'", isThere);
        if (isThere) {
            Arrays.fill(isSaid, at, at + itsWords.length(), true);
        }
    }

    private void closeWords() {
        check.yes(title + ", '" + words + "': something is tested", words.isEmpty() || tested > 0);
        tested = 0;
    }

    void end() {
        closeWords();
        StringBuilder left = new StringBuilder();
        for (int i = 0; i < doc.length(); i++) {
            boolean isLeft = isOpened[i] && !isSaid[i] && Character.isLetterOrDigit(doc.charAt(i));
            if (isLeft) {
                left.append(doc.charAt(i));
            } else if (left.length() > 0 && left.charAt(left.length() - 1) != ' ') {
                left.append(' ');
            }
        }
        check.yes("words that no test has said: " + left, left.length() == 0);
        check.end();
    }

    private String named(String call) {
        return title + ", '" + words + "': " + call;
    }

    // ---- objects

    /** A new object, without a TOWN. */
    void fresh() {
        x = new LateRingers();
        run.clear();
    }

    /** A new object with this TOWN, which must be one. */
    void town(String text) {
        fresh();
        tell(text, 0);
    }

    /** The object is told a text: 0, or the FAULT that is due. */
    void tell(String text, int fault) {
        feed(text);
        is("town(" + text.length() + ")", fault);
    }

    /** The text comes behind the tape, with blanks up to twenty bytes. */
    void feed(String text) {
        for (String call : feeds(text)) {
            go(call);
        }
    }

    private static List<String> feeds(String text) {
        byte[] all = Check.bytes(text);
        List<String> calls = new ArrayList<>();
        for (int at = 0; at < all.length; at += 20) {
            int[] five = new int[5];
            for (int i = 0; i < 20; i++) {
                int b = at + i < all.length ? all[at + i] & 255 : 32;
                five[i / 4] = five[i / 4] << 8 | b;
            }
            calls.add("feed(" + five[0] + ", " + five[1] + ", " + five[2] + ", " + five[3] + ", " + five[4] + ")");
        }
        return calls;
    }

    /** The text on a new object: its FAULT (0: none), and the place. */
    void fault(String text, int fault, int place) {
        fresh();
        feed(text);
        String said = words;
        words = said + "' of '" + text;
        give("town(" + text.length() + ")", fault);
        give("fault()", place);
        give("count(" + FIRST_STATUS + ")", fault == 0 ? 0 : 1);
        words = said;
    }

    void good(String text) {
        fault(text, 0, NONE);
    }

    // ---- calls

    /** Calls whose answers are looked at elsewhere. */
    void go(String... calls) {
        for (String call : calls) {
            Object got = answer(x, call);
            check.yes(named(call) + " threw " + got, got instanceof Long);
            run.add(call);
        }
    }

    /** The answer that is due; a question changes nothing, too. */
    void is(String call, long want) {
        give(call, want);
        if (!CHANGING.contains(call.substring(0, call.indexOf('(')))) {
            sameBehind(call, NONE);
        }
    }

    /** The answer that is due, and nothing changes. */
    void isIdle(String call, long want) {
        give(call, want);
        sameBehind(call, NONE);
    }

    /** The answer that is due, and nothing changes but the STATUS, which is one more. */
    void isRefused(String call, long want, int status) {
        give(call, want);
        sameBehind(call, status);
    }

    /** Rows of a call and the answer that is due: "count(0) = 8". */
    void gives(String... rows) {
        for (String row : rows) {
            int at = row.indexOf(" = ");
            give(row.substring(0, at), Long.parseLong(row.substring(at + 3)));
        }
    }

    /** The answer is that of a new object of this TOWN: nothing is left of what was ahead of it. */
    void isAsNew(String call, String text) {
        LateRingers other = new LateRingers();
        for (String fed : feeds(text)) {
            answer(other, fed);
        }
        answer(other, "town(" + text.length() + ")");
        give(call, (Long) answer(other, call));
    }

    /** NoSuchElementException, and nothing changes. */
    void noSuch(String call) {
        isThrown(call, Check.NO_SUCH);
    }

    /** IllegalArgumentException, and nothing changes. */
    void illegal(String call) {
        isThrown(call, Check.ILLEGAL);
    }

    /** The answer that is due, without a look at what else there is. */
    void give(String call, long want) {
        Object got = answer(x, call);
        tested++;
        if (got instanceof Long number) {
            check.same(named(call), number, want);
        } else {
            check.yes(named(call) + " threw " + got, false);
        }
        run.add(call);
        check.yes(named(call) + " is within " + MOST_CALLS + " calls", run.size() <= MOST_CALLS);
    }

    private void isThrown(String call, String exception) {
        Object got = answer(x, call);
        tested++;
        check.yes(named(call) + " answered " + got + ", due is " + exception, exception.equals(got));
        run.add(call);
        sameBehind(call, NONE);
    }

    /** Whether all that can be seen is the same with and without the latest call, but for one more of a STATUS. */
    private void sameBehind(String call, int status) {
        List<Object> with = seenBehind(run);
        List<Object> without = seenBehind(run.subList(0, run.size() - 1));
        if (status != NONE) {
            int cell = FIRST_STATUS + status;
            without.set(cell, (Long) without.get(cell) + 1);
        }
        check.yes(named(call) + " changed " + without + " to " + with, with.equals(without));
    }

    private List<Object> seenBehind(List<String> calls) {
        check.yes(title + ": a look behind " + calls.size() + " calls", calls.size() + LOOKS <= MOST_CALLS);
        LateRingers twin = new LateRingers();
        for (String call : calls) {
            answer(twin, call);
        }
        List<Object> seen = new ArrayList<>();
        for (int what = 0; what <= 12; what++) {
            seen.add(answer(twin, "count(" + what + ")"));
        }
        look(twin, seen);
        // the first question behind the call shows what that may have left
        seen.add(answer(twin, "behind(3)"));
        for (int d = 0; d < twin.count(1); d++) {
            seen.add(answer(twin, "spread(" + d + ")"));
        }
        for (int what = 0; what <= 2; what++) {
            seen.add(answer(twin, "habits(" + what + ")"));
        }
        seen.add(answer(twin, "undo()"));
        look(twin, seen);
        seen.add(answer(twin, "restore()"));
        look(twin, seen);
        return seen;
    }

    private void look(LateRingers twin, List<Object> seen) {
        for (int what = 3; what <= 9; what++) {
            seen.add(answer(twin, "count(" + what + ")"));
        }
        for (int p = 0; p < twin.count(0); p++) {
            for (int what = 0; what <= 6; what++) {
                seen.add(answer(twin, "person(" + p + ", " + what + ")"));
            }
        }
        for (int d = 0; d < twin.count(1); d++) {
            seen.add(answer(twin, "duty(" + d + ", 0)"));
        }
        seen.add(answer(twin, "fault()"));
    }

    /** A Long (a boolean is 1 or 0, nothing is 0), or the name of what was thrown. */
    private Object answer(LateRingers object, String call) {
        int open = call.indexOf('(');
        Method method = face.get(call.substring(0, open));
        String inside = call.substring(open + 1, call.length() - 1).trim();
        String[] written = inside.isEmpty() ? new String[0] : inside.split(", *");
        Object[] arguments = new Object[written.length];
        for (int i = 0; i < written.length; i++) {
            boolean isBoolean = method.getParameterTypes()[i] == boolean.class;
            arguments[i] = isBoolean ? (Object) Boolean.valueOf(written[i]) : (Object) Integer.valueOf(written[i]);
        }
        try {
            Object got = method.invoke(object, arguments);
            return got == null ? (Object) 0L : got instanceof Boolean is ? (Object) (is ? 1L : 0L) : (Object) ((Integer) got).longValue();
        } catch (InvocationTargetException e) {
            return e.getCause().getClass().getSimpleName();
        } catch (IllegalAccessException e) {
            return "no access";
        }
    }
}
