import com.sun.management.ThreadMXBean;
import java.lang.management.ManagementFactory;
import java.util.LinkedHashMap;
import java.util.Map;

/** LANGUAGE.md, rule 12: what calls make is small. No call makes anything, but for town (and a new object). */
public final class RoomTest {
    private static final Check CHECK = new Check();
    private static final int CALLS = 200;
    /** 7.3 million fields and elements are all that a run has: one object with all its calls keeps far below that. */
    private static final long MOST_OF_TOWN = 8192;
    private static final long MOST_OF_NEW = 65536;

    /** No object is smaller; the machine itself may make a few while it counts. */
    private static final long LEAST_OBJECT = 16;
    private static final ThreadMXBean THREADS = (ThreadMXBean) ManagementFactory.getThreadMXBean();

    private static long made() {
        return THREADS.getCurrentThreadAllocatedBytes();
    }

    /** Bytes that so many calls make, behind a first one that may load classes. */
    private static long bytesOf(Check.Call call) {
        call.answer();
        long ahead = made();
        for (int i = 0; i < CALLS; i++) {
            call.answer();
        }
        return made() - ahead;
    }

    private static Map<String, Check.Call> calls(LateRingers x) {
        Map<String, Check.Call> calls = new LinkedHashMap<>();
        calls.put("feed", () -> x.feed(0, 0, 0, 0, 0));
        calls.put("days, undo", () -> x.days(20) + x.undo());
        calls.put("hurry", () -> x.hurry(1, 5));
        calls.put("ill, undo", () -> (x.ill(1, true) ? 1 : 0) + x.undo());
        calls.put("appoint, undo", () -> x.appoint(1) + x.undo());
        calls.put("due", () -> x.due(1, 5));
        calls.put("then", () -> x.then(5, 40, 0));
        calls.put("first, worst, idle", () -> x.first(0) + x.worst(40) + x.idle(40));
        calls.put("later, round", () -> x.later(7, 40, 1) + x.round(0));
        calls.put("delay, club, rota, towers", () -> x.delay(0, 5) + x.club(5, 6) + x.rota(5) + x.towers(0, 1));
        calls.put("see, forget", () -> {
            x.see(0, 12, 5);
            x.forget();
            return 0;
        });
        calls.put("habits", () -> x.habits(0));
        calls.put("next", () -> x.next(0));
        calls.put("snow, game, years", () -> x.snow(7, 5, 5) + x.game(6, 7, 0) + x.years(5, 40, 0));
        calls.put("coming, spread, ahead, late", () -> x.coming(5, 7, 0) + x.spread(5) + x.ahead(7, 5) + x.late(7, 5));
        calls.put("nearest, neighbours, walk, twins", () -> x.nearest(7) + x.neighbours(7, 0) + x.walk(7) + x.twins());
        calls.put("toMend, loses, prompt", () -> x.toMend(7, 40) + x.loses(7) + x.prompt(5));
        calls.put("silent, behind, most", () -> x.silent(40) + x.behind(40) + x.most(40));
        calls.put("soonest, handed", () -> x.soonest(5, 69) + x.handed(40));
        calls.put("image, restore", () -> {
            x.image();
            return x.restore() ? 1 : 0;
        });
        calls.put("count, person, duty, fault", () -> x.count(5) + x.person(7, 1) + x.duty(5, 2) + x.fault());
        return calls;
    }

    public static void main(String[] args) {
        for (Map.Entry<String, Check.Call> call : calls(Check.of(TextEdges.FULL)).entrySet()) {
            long bytes = bytesOf(call.getValue());
            CHECK.yes(call.getKey() + " make nothing, but made " + bytes + " bytes", bytes < CALLS * LEAST_OBJECT);
        }
        // a TEXT of 700 bytes that is one rule
        String rule = "rings 1" + "+1".repeat(346) + ";";
        byte[] text = Check.bytes(rule);
        LateRingers x = Check.of(rule);
        long least = bytesOf(() -> {
            Check.feed(x, text);
            return 0;
        });
        long ofTown = bytesOf(() -> {
            Check.feed(x, text);
            return x.town(text.length);
        });
        CHECK.yes("town makes " + (ofTown - least) / CALLS + " bytes", ofTown - least <= CALLS * MOST_OF_TOWN);
        long ofNew = bytesOf(() -> new LateRingers().count(0));
        CHECK.yes("a new object makes " + ofNew / CALLS + " bytes", ofNew <= CALLS * MOST_OF_NEW);
        CHECK.end();
    }
}
