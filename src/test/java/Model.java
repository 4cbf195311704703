import java.util.ArrayList;
import java.util.Comparator;
import java.util.HashSet;
import java.util.List;
import java.util.Random;
import java.util.Set;

/** The document's words once more, written another way than the class: whole copies, sorted lists, every choice tried. */
final class Model {
    /** A rule as a tree, which is also its text. */
    interface Expr {
        int of(Folk f, int duty, int day, int way);
        String text();
    }

    static final class Folk {
        int kind;
        int habit;
        int haste;
        int home;
        int late;
        int rung;
        boolean ill;
    }

    static final class World {
        final List<Folk> folk = new ArrayList<>();
        final List<int[]> duties = new ArrayList<>();
        int pace = 2;
        Expr rings;
        Expr mends;
        int day;
        int ringer = -1;

        World copy() {
            World w = new World();
            for (Folk f : folk) {
                Folk g = new Folk();
                g.kind = f.kind;
                g.habit = f.habit;
                g.haste = f.haste;
                g.home = f.home;
                g.late = f.late;
                g.rung = f.rung;
                g.ill = f.ill;
                w.folk.add(g);
            }
            for (int[] d : duties) {
                w.duties.add(d.clone());
            }
            w.pace = pace;
            w.rings = rings;
            w.mends = mends;
            w.day = day;
            w.ringer = ringer;
            return w;
        }

        int far(int p, int d) {
            return Math.abs(folk.get(p).home - duties.get(d)[1]);
        }

        int way(int p, int d) {
            Folk f = folk.get(p);
            int way = pace * far(p, d) + f.habit - f.haste;
            return way < 0 ? 0 : way;
        }

        /** What stands of a state by ROUND's words. */
        List<Integer> mark() {
            List<Integer> mark = new ArrayList<>();
            mark.add(ringer);
            for (Folk f : folk) {
                mark.add(f.haste);
                mark.add(f.late);
            }
            return mark;
        }
    }

    /** One turn: who rang, when, who came when, who was last. */
    static final class Turn {
        int rang;
        int minute;
        int behind;
        int last;
        /** Pairs of a person and a minute. */
        final List<int[]> came = new ArrayList<>();
        int[] lateThen;

        int minuteOf(int p) {
            for (int[] c : came) {
                if (c[0] == p) {
                    return c[1];
                }
            }
            return -1;
        }
    }

    static Comparator<int[]> lastFirst(World w, int d) {
        return (a, b) -> a[1] != b[1] ? b[1] - a[1]
            : w.far(a[0], d) != w.far(b[0], d) ? w.far(a[0], d) - w.far(b[0], d) : a[0] - b[0];
    }

    static Comparator<int[]> firstFirst(World w, int d) {
        return (a, b) -> a[1] != b[1] ? a[1] - b[1]
            : w.far(a[0], d) != w.far(b[0], d) ? w.far(a[0], d) - w.far(b[0], d) : a[0] - b[0];
    }

    static List<int[]> noMules(World w, Turn t, int d) {
        List<int[]> list = new ArrayList<>();
        for (int[] c : t.came) {
            if (w.folk.get(c[0]).kind != 1) {
                list.add(c);
            }
        }
        list.sort(lastFirst(w, d));
        return list;
    }

    static Turn turn(World w, int d, int snow) {
        Turn t = new Turn();
        int due = w.duties.get(d)[0];
        t.rang = w.ringer;
        if (w.ringer >= 0) {
            Folk r = w.folk.get(w.ringer);
            int gives = w.rings == null ? r.late / 2 : w.rings.of(r, d, w.day, w.far(w.ringer, d));
            t.behind = gives < 0 ? 0 : gives > 120 ? 120 : gives;
            if (r.rung < 999) {
                r.rung++;
            }
        }
        t.minute = due + t.behind;
        for (int p = 0; p < w.folk.size(); p++) {
            Folk f = w.folk.get(p);
            if (f.kind == 2 || f.ill) {
                continue;
            }
            int minute = (f.kind == 1 ? due : t.minute + w.way(p, d)) + snow;
            t.came.add(new int[] {p, minute});
            f.late = minute - due;
        }
        List<int[]> losers = noMules(w, t, d);
        t.last = losers.isEmpty() ? -1 : losers.get(0)[0];
        w.ringer = t.last;
        if (t.last >= 0) {
            Folk l = w.folk.get(t.last);
            int more = w.mends == null ? 1 : w.mends.of(l, d, w.day, w.far(t.last, d));
            more = more < 0 ? 0 : more > 9 ? 9 : more;
            l.haste = l.haste + more > 60 ? 60 : l.haste + more;
        }
        t.lateThen = new int[w.folk.size()];
        for (int p = 0; p < w.folk.size(); p++) {
            t.lateThen[p] = w.folk.get(p).late;
        }
        return t;
    }

    static List<Turn> day(World w, int snow) {
        List<Turn> turns = new ArrayList<>();
        Set<Integer> rang = new HashSet<>();
        for (int d = 0; d < w.duties.size(); d++) {
            Turn t = turn(w, d, snow);
            turns.add(t);
            rang.add(t.rang);
        }
        for (int p = 0; p < w.folk.size(); p++) {
            Folk f = w.folk.get(p);
            if (!rang.contains(p) && f.haste > 0) {
                f.haste--;
            }
        }
        w.day++;
        return turns;
    }

    /** The turns of so many days from a world on, which stays as it is. */
    static List<List<Turn>> days(World from, int many) {
        World w = from.copy();
        List<List<Turn>> all = new ArrayList<>();
        for (int k = 0; k < many; k++) {
            all.add(day(w, 0));
        }
        return all;
    }

    static World behind(World from, int many) {
        World w = from.copy();
        for (int k = 0; k < many; k++) {
            day(w, 0);
        }
        return w;
    }

    static int[] ringsOf(World w, int many) {
        int[] rings = new int[w.folk.size()];
        for (List<Turn> turns : days(w, many)) {
            for (Turn t : turns) {
                if (t.rang >= 0) {
                    rings[t.rang]++;
                }
            }
        }
        return rings;
    }

    static boolean ringsOn(List<Turn> turns, int p) {
        for (Turn t : turns) {
            if (t.rang == p) {
                return true;
            }
        }
        return false;
    }

    static int first(World w, int p) {
        List<List<Turn>> all = days(w, 40);
        for (int k = 0; k < 40; k++) {
            if (ringsOn(all.get(k), p)) {
                return k + 1;
            }
        }
        return -1;
    }

    static int worst(World w, int k) {
        List<Turn> turns = days(w, k).get(k - 1);
        int found = -1;
        for (int d = turns.size() - 1; d >= 0; d--) {
            if (found < 0 || turns.get(d).behind >= turns.get(found).behind) {
                found = d;
            }
        }
        return found;
    }

    static int idle(World w, int many) {
        int[] rings = ringsOf(w, many);
        int bits = 0;
        for (int p = 0; p < rings.length; p++) {
            bits += rings[p] == 0 ? 1 << p : 0;
        }
        return bits;
    }

    static int round(World from, int what) {
        List<List<Integer>> marks = new ArrayList<>();
        World w = from.copy();
        for (int k = 0; k <= 40; k++) {
            int i = marks.indexOf(w.mark());
            if (i >= 0) {
                return what == 0 ? k : i;
            }
            marks.add(w.mark());
            day(w, 0);
        }
        return -1;
    }

    static int delay(World w, int p, int d) {
        Turn t = days(w, 1).get(0).get(d);
        if (w.folk.get(p).kind == 1 || t.minuteOf(p) < 0) {
            return -1;
        }
        for (int more = 0; more <= 99; more++) {
            Turn changed = new Turn();
            for (int[] c : t.came) {
                changed.came.add(new int[] {c[0], c[0] == p ? c[1] + more : c[1]});
            }
            if (noMules(w, changed, d).get(0)[0] == p) {
                return more;
            }
        }
        return -1;
    }

    static int club(World w, int d, int many) {
        List<int[]> list = noMules(w, days(w, 1).get(0).get(d), d);
        if (list.size() < many) {
            return -1;
        }
        int bits = 0;
        for (int[] c : list.subList(0, many)) {
            bits |= 1 << c[0];
        }
        return bits;
    }

    /** The best rows of a rota: the sum first, then who has each duty; null, if there are too few. */
    static int[] rota(World w) {
        int[] best = new int[w.duties.size() + 1];
        best[0] = Integer.MAX_VALUE;
        tryRota(w, 0, new int[w.duties.size()], best);
        return best[0] == Integer.MAX_VALUE ? null : best;
    }

    private static void tryRota(World w, int d, int[] row, int[] best) {
        if (d == row.length) {
            int sum = 0;
            for (int i = 0; i < d; i++) {
                sum += w.way(row[i], i);
            }
            if (sum < best[0]) {
                best[0] = sum;
                System.arraycopy(row, 0, best, 1, d);
            }
            return;
        }
        for (int p = 0; p < w.folk.size(); p++) {
            boolean free = w.folk.get(p).kind == 0 && !w.folk.get(p).ill;
            for (int i = 0; i < d; i++) {
                free &= row[i] != p;
            }
            if (free) {
                row[d] = p;
                tryRota(w, d + 1, row, best);
            }
        }
    }

    /** All sets of as few places as will do, each tried: only for towns whose answer is small. */
    static int towers(World w, int far) {
        for (int many = 0; many <= 8; many++) {
            int found = tryTowers(w, far, many, 0, 0);
            if (found >= 0) {
                return found;
            }
        }
        return -1;
    }

    private static int tryTowers(World w, int far, int left, int from, int bits) {
        if (left == 0) {
            for (Folk f : w.folk) {
                boolean reached = false;
                for (int place = 0; place <= 30; place++) {
                    reached |= (bits >> place & 1) == 1 && Math.abs(f.home - place) <= far;
                }
                if (!reached) {
                    return -1;
                }
            }
            return bits;
        }
        int best = -1;
        for (int place = from; place <= 30; place++) {
            int found = tryTowers(w, far, left - 1, place + 1, bits | 1 << place);
            if (found >= 0 && (best < 0 || found < best)) {
                best = found;
            }
        }
        return best;
    }

    static boolean fits(World w, List<int[]> seen) {
        List<List<Turn>> all = days(w, 12);
        for (int[] s : seen) {
            if (all.get(s[1] - 1).get(s[0]).minute != s[2]) {
                return false;
            }
        }
        return true;
    }

    static World withHabit(World from, int p, int habit) {
        World w = from.copy();
        w.folk.get(p).habit = habit;
        return w;
    }

    static List<Integer> habits(World w, List<int[]> seen) {
        List<Integer> list = new ArrayList<>();
        for (int p = 0; p < w.folk.size(); p++) {
            for (int h = 0; h <= 60; h++) {
                if (h != w.folk.get(p).habit && fits(withHabit(w, p, h), seen)) {
                    list.add(100 * p + h);
                }
            }
        }
        return list;
    }

    static int[] next(World w, List<int[]> seen) {
        List<Integer> habits = habits(w, seen);
        int[] answer = {-1, 0};
        for (int d = 0; d < w.duties.size(); d++) {
            Set<Integer> minutes = new HashSet<>();
            for (int h : habits) {
                minutes.add(days(withHabit(w, h / 100, h % 100), 2).get(1).get(d).minute);
            }
            if (minutes.size() > answer[1]) {
                answer[0] = d;
                answer[1] = minutes.size();
            }
        }
        return answer;
    }

    static int snow(World w, int p, int left, int tenths) {
        if (left == 0) {
            return w.ringer == p ? 1 : 0;
        }
        World snows = w.copy();
        World clear = w.copy();
        day(snows, 15);
        day(clear, 0);
        return tenths * snow(snows, p, left - 1, tenths) + (10 - tenths) * snow(clear, p, left - 1, tenths);
    }

    private static int[] gains(World from, int p, int q, int a, int b) {
        World w = from.copy();
        w.folk.get(p).haste = Math.min(60, w.folk.get(p).haste + 9 * a);
        w.folk.get(q).haste = Math.min(60, w.folk.get(q).haste + 9 * b);
        int[] gains = {-a, -b};
        for (List<Turn> turns : days(w, 8)) {
            gains[0] += ringsOn(turns, p) ? 0 : 1;
            gains[1] += ringsOn(turns, q) ? 0 : 1;
        }
        return gains;
    }

    static List<Integer> rests(World w, int p, int q) {
        List<Integer> list = new ArrayList<>();
        for (int a = 0; a < 2; a++) {
            for (int b = 0; b < 2; b++) {
                if (gains(w, p, q, a, b)[0] >= gains(w, p, q, 1 - a, b)[0]
                        && gains(w, p, q, a, b)[1] >= gains(w, p, q, a, 1 - b)[1]) {
                    list.add(10 * a + b);
                }
            }
        }
        return list;
    }

    static int years(World from, int seed, int n, int what) {
        World w = from.copy();
        int s = seed;
        int total = 0;
        for (int k = 0; k < n; k++) {
            if (!w.folk.isEmpty()) {
                s = (int) (s * 1103515245L + 12345L);
                int who = (int) ((s & 0x7fffffffL) / 65536) % w.folk.size();
                s = (int) (s * 1103515245L + 12345L);
                int what5 = (int) ((s & 0x7fffffffL) / 65536) % 5;
                Folk f = w.folk.get(who);
                if (what5 == 0) {
                    f.ill = !f.ill;
                }
                if (what5 == 1) {
                    f.haste = 0;
                }
                if (what5 == 2) {
                    w.ringer = who;
                }
            }
            for (Turn t : day(w, 0)) {
                total += t.behind;
            }
        }
        int most = -1;
        int haste = 0;
        for (int p = 0; p < w.folk.size(); p++) {
            haste += w.folk.get(p).haste;
            if (most < 0 || w.folk.get(p).rung > w.folk.get(most).rung) {
                most = p;
            }
        }
        return what == 0 ? most : what == 1 ? total : haste;
    }

    static int toMend(World from, int p, int many) {
        for (int haste = 0; haste <= 60; haste++) {
            World w = from.copy();
            w.folk.get(p).haste = haste;
            if (ringsOf(w, many)[p] == 0) {
                return haste;
            }
        }
        return -1;
    }

    static int silent(World w, int many) {
        int bits = 0;
        for (int d = 0; d < w.duties.size(); d++) {
            boolean silent = true;
            for (List<Turn> turns : days(w, many)) {
                silent &= turns.get(d).minute == w.duties.get(d)[0];
            }
            bits |= silent ? 1 << d : 0;
        }
        return bits;
    }

    static int walk(World w, int p) {
        List<Integer> all = new ArrayList<>();
        for (int[] d : w.duties) {
            all.add(d[1]);
        }
        return w.pace * tour(w.folk.get(p).home, all);
    }

    private static int tour(int from, List<Integer> left) {
        int best = left.isEmpty() ? 0 : Integer.MAX_VALUE;
        for (int i = 0; i < left.size(); i++) {
            List<Integer> others = new ArrayList<>(left);
            int to = others.remove(i);
            best = Math.min(best, Math.abs(from - to) + tour(to, others));
        }
        return best;
    }

    /** A rule of random parts; 'within' parentheses stand round it already. */
    static Expr expr(Random r, int within, boolean mends) {
        int kind = within >= 5 ? r.nextInt(2) : r.nextInt(9);
        if (kind == 0) {
            int number = r.nextInt(3) == 0 ? r.nextInt(10000) : r.nextInt(20);
            return leaf(String.valueOf(number), -1, number);
        }
        if (kind <= 3) {
            String[] words = {"late", "habit", "haste", "rung", "duty", "day", "way"};
            int which = r.nextInt(mends ? 7 : 6);
            return leaf(words[which], which, 0);
        }
        Expr a = expr(r, within + 1, mends);
        if (kind == 4) {
            return new Expr() {
                public int of(Folk f, int duty, int day, int way) {
                    return a.of(f, duty, day, way) == 0 ? 1 : 0;
                }

                public String text() {
                    return "not (" + a.text() + ")";
                }
            };
        }
        Expr b = expr(r, within + 1, mends);
        String[] signs = {"+", "-", "*", "/", "<", "=", " and ", " or "};
        return two(a, signs[r.nextInt(8)], b);
    }

    private static Expr leaf(String text, int which, int number) {
        return new Expr() {
            public int of(Folk f, int duty, int day, int way) {
                int[] values = {f.late, f.habit, f.haste, f.rung, duty, day, way};
                return which < 0 ? number : values[which];
            }

            public String text() {
                return text;
            }
        };
    }

    private static Expr two(Expr a, String sign, Expr b) {
        return new Expr() {
            public int of(Folk f, int duty, int day, int way) {
                int x = a.of(f, duty, day, way);
                int y = b.of(f, duty, day, way);
                switch (sign.trim()) {
                    case "+": return x + y;
                    case "-": return x - y;
                    case "*": return x * y;
                    case "/": return y == 0 ? 0 : x / y;
                    case "<": return x < y ? 1 : 0;
                    case "=": return x == y ? 1 : 0;
                    case "and": return x != 0 && y != 0 ? 1 : 0;
                    default: return x != 0 || y != 0 ? 1 : 0;
                }
            }

            public String text() {
                return "(" + a.text() + ")" + sign + "(" + b.text() + ")";
            }
        };
    }

    static World world(Random r) {
        World w = new World();
        int people = r.nextInt(9);
        int small = r.nextBoolean() ? 6 : 61;
        for (int p = 0; p < people; p++) {
            Folk f = new Folk();
            f.kind = Math.max(0, r.nextInt(8) - 5);
            f.habit = r.nextInt(small);
            f.haste = r.nextInt(small);
            f.home = r.nextInt(Math.min(31, small));
            w.folk.add(f);
        }
        int duties = r.nextInt(7);
        for (int d = 0; d < duties; d++) {
            w.duties.add(new int[] {r.nextInt(1000), r.nextInt(Math.min(31, small))});
        }
        w.pace = r.nextInt(3) == 0 ? 2 : 1 + r.nextInt(9);
        w.rings = r.nextInt(3) == 0 ? null : expr(r, 0, false);
        w.mends = r.nextInt(3) == 0 ? null : expr(r, 0, true);
        return w;
    }

    static String text(World w) {
        StringBuilder s = new StringBuilder();
        String[] kinds = {"person", "mule", "cook"};
        for (Folk f : w.folk) {
            s.append(kinds[f.kind]).append(' ').append(f.habit).append(' ').append(f.haste).append('\n').append(f.home).append(';');
        }
        for (int[] d : w.duties) {
            s.append(" duty ").append(d[0]).append(' ').append(d[1]).append(" ;");
        }
        s.append("pace ").append(w.pace).append(';');
        if (w.rings != null) {
            s.append("rings ").append(w.rings.text()).append(';');
        }
        if (w.mends != null) {
            s.append("mends ").append(w.mends.text()).append(';');
        }
        return s.toString();
    }
}
