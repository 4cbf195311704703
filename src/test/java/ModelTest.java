import java.util.ArrayDeque;
import java.util.ArrayList;
import java.util.Deque;
import java.util.List;
import java.util.Random;

/** Random towns with random acts: each answer of the class is set against that of the model. */
public final class ModelTest {
    private static final Check CHECK = new Check();

    private final Random r;
    private final LateRingers x;
    private final String name;
    private int calls = 0;
    private Model.World w;
    private final Deque<Model.World> acts = new ArrayDeque<>();
    private final List<int[]> seen = new ArrayList<>();
    private Model.World keptWorld;
    private List<Model.World> keptActs;
    private List<int[]> keptSeen;

    private ModelTest(int seed) {
        Random random = new Random(seed);
        Model.World made = Model.world(random);
        while (Model.text(made).length() > 700) {
            made = Model.world(random);
        }
        r = random;
        w = made;
        x = Check.of(Model.text(made));
        name = "town " + seed + ": ";
    }

    private void same(String call, long got, long want) {
        calls++;
        CHECK.same(name + call, got, want);
    }

    private void keep() {
        acts.addLast(w.copy());
        if (acts.size() > 40) {
            acts.removeFirst();
        }
    }

    private void act() {
        int people = w.folk.size();
        int duties = w.duties.size();
        switch (r.nextInt(9)) {
            case 0:
            case 1: {
                int many = 1 + r.nextInt(r.nextInt(10) == 0 ? 20 : 3);
                if (w.day + many <= 999) {
                    keep();
                    w = Model.behind(w, many);
                    same("days " + many, x.days(many), w.day);
                }
                break;
            }
            case 2:
                if (people > 0) {
                    int p = r.nextInt(people);
                    int haste = r.nextInt(61);
                    keep();
                    same("hurry", x.hurry(p, haste), w.folk.get(p).haste);
                    w.folk.get(p).haste = haste;
                }
                break;
            case 3:
                if (people > 0) {
                    int p = r.nextInt(people);
                    boolean is = r.nextBoolean();
                    boolean changes = w.folk.get(p).ill != is;
                    if (changes) {
                        keep();
                        w.folk.get(p).ill = is;
                    }
                    same("ill", x.ill(p, is) ? 1 : 0, changes ? 1 : 0);
                }
                break;
            case 4:
                if (people > 0) {
                    int p = r.nextInt(people);
                    boolean may = w.ringer != p && w.folk.get(p).kind != 2 && !w.folk.get(p).ill;
                    same("appoint", x.appoint(p), may ? w.ringer : -2);
                    if (may) {
                        keep();
                        w.ringer = p;
                    }
                }
                break;
            case 5:
                if (duties > 0) {
                    int d = r.nextInt(duties);
                    int minute = r.nextInt(1000);
                    keep();
                    same("due", x.due(d, minute), w.duties.get(d)[0]);
                    w.duties.get(d)[0] = minute;
                }
                break;
            case 6:
                if (acts.isEmpty()) {
                    same("undo", x.undo(), -1);
                } else {
                    w = acts.removeLast();
                    same("undo", x.undo(), acts.size());
                }
                break;
            case 7:
                hear();
                break;
            default:
                images();
        }
    }

    private void hear() {
        if (w.duties.isEmpty() || r.nextInt(3) == 0) {
            x.forget();
            seen.clear();
            return;
        }
        int d = r.nextInt(w.duties.size());
        int k = 1 + r.nextInt(r.nextBoolean() ? 12 : 3);
        // what one would hear, or what another habit would bring
        Model.World other = w;
        if (!w.folk.isEmpty() && r.nextBoolean()) {
            other = Model.withHabit(w, r.nextInt(w.folk.size()), r.nextInt(61));
        }
        int minute = Model.days(other, k).get(k - 1).get(d).minute;
        if (seen.size() < 8) {
            seen.add(new int[] {d, k, minute});
            same("see", x.see(d, k, minute), seen.size());
        } else {
            same("see a ninth", x.see(d, k, minute), -1);
        }
    }

    private void images() {
        if (r.nextBoolean()) {
            x.image();
            keptWorld = w.copy();
            keptActs = new ArrayList<>();
            for (Model.World a : acts) {
                keptActs.add(a.copy());
            }
            keptSeen = new ArrayList<>(seen);
            return;
        }
        same("restore", x.restore() ? 1 : 0, keptWorld == null ? 0 : 1);
        if (keptWorld != null) {
            w = keptWorld.copy();
            acts.clear();
            for (Model.World a : keptActs) {
                acts.addLast(a.copy());
            }
            seen.clear();
            seen.addAll(keptSeen);
        }
    }

    private void look() {
        int haste = 0;
        int ill = 0;
        for (int p = 0; p < w.folk.size(); p++) {
            Model.Folk f = w.folk.get(p);
            haste += f.haste;
            ill |= f.ill ? 1 << p : 0;
            int[] want = {f.habit, f.haste, f.home, f.late, f.rung, f.kind, f.ill ? 1 : 0};
            for (int what = 0; what < 7; what++) {
                same("person " + p + " " + what, x.person(p, what), want[what]);
            }
        }
        int[] counts = {w.folk.size(), w.duties.size(), w.pace, w.day, w.ringer, ill, haste, acts.size(), seen.size(), 0};
        for (int what = 0; what < counts.length; what++) {
            same("count " + what, x.count(what), counts[what]);
        }
    }

    private void askDays() {
        int many = r.nextInt(41);
        int some = 1 + r.nextInt(40);
        List<List<Model.Turn>> all = Model.days(w, many);
        int total = 0;
        int handed = 0;
        for (List<Model.Turn> turns : all) {
            for (Model.Turn t : turns) {
                total += t.behind;
                handed += t.rang != t.last ? 1 : 0;
            }
        }
        same("behind", x.behind(many), total);
        same("handed", x.handed(many), handed);
        same("idle", x.idle(many), Model.idle(w, many));
        same("silent", x.silent(many), Model.silent(w, many));
        same("worst", x.worst(some), Model.worst(w, some));
        same("round 0", x.round(0), Model.round(w, 0));
        same("round 1", x.round(1), Model.round(w, 1));
        int[] rings = Model.ringsOf(w, some);
        int most = -1;
        for (int p = 0; p < rings.length; p++) {
            if (rings[p] > (most < 0 ? 0 : rings[most])) {
                most = p;
            }
        }
        same("most", x.most(some), most);
        int seed = r.nextInt();
        for (int what = 0; what < 3; what++) {
            same("years " + seed + " " + what, x.years(seed, many, what), Model.years(w, seed, many, what));
        }
        int twins = 0;
        for (Model.Folk f : w.folk) {
            for (Model.Folk g : w.folk) {
                if (f != g && f.home == g.home && f.habit == g.habit && f.haste == g.haste) {
                    twins++;
                }
            }
        }
        same("twins", x.twins(), twins / 2);
    }

    private void askPerson(int p) {
        int many = r.nextInt(41);
        int some = 1 + r.nextInt(40);
        Model.World then = Model.behind(w, many);
        same("later 0", x.later(p, many, 0), then.folk.get(p).haste);
        same("later 1", x.later(p, many, 1), then.folk.get(p).rung);
        same("first", x.first(p), Model.first(w, p));
        same("toMend", x.toMend(p, some), Model.toMend(w, p, some));
        same("walk", x.walk(p), Model.walk(w, p));
        int far = r.nextInt(31);
        int near = 0;
        for (int q = 0; q < w.folk.size(); q++) {
            near |= q != p && Math.abs(w.folk.get(q).home - w.folk.get(p).home) <= far ? 1 << q : 0;
        }
        same("neighbours", x.neighbours(p, far), near);
        int nearest = -1;
        int loses = 0;
        List<Model.Turn> turns = Model.days(w, 1).get(0);
        for (int d = 0; d < w.duties.size(); d++) {
            Model.Turn t = turns.get(d);
            nearest = nearest < 0 || w.far(p, d) < w.far(p, nearest) ? d : nearest;
            loses |= t.last == p ? 1 << d : 0;
            same("delay", x.delay(p, d), Model.delay(w, p, d));
            int minute = t.minuteOf(p);
            int earlier = 0;
            for (int[] c : t.came) {
                earlier += c[1] < minute ? 1 : 0;
            }
            same("ahead", x.ahead(p, d), minute < 0 ? -1 : earlier);
            same("late", x.late(p, d), minute < 0 ? -1 : t.lateThen[p]);
        }
        same("nearest", x.nearest(p), nearest);
        same("loses", x.loses(p), loses);
        int days = 1 + r.nextInt(5);
        int tenths = r.nextInt(11);
        same("snow", x.snow(p, days, tenths), Model.snow(w, p, days, tenths));
        int q = r.nextInt(w.folk.size());
        if (q != p) {
            List<Integer> rests = Model.rests(w, p, q);
            same("game 0", x.game(p, q, 0), rests.size());
            same("game 1", x.game(p, q, 1), rests.isEmpty() ? -1 : rests.get(0));
        }
    }

    private void askDuty(int d) {
        int k = 1 + r.nextInt(40);
        Model.Turn then = Model.days(w, k).get(k - 1).get(d);
        same("then 0", x.then(d, k, 0), then.minute);
        same("then 1", x.then(d, k, 1), then.last);
        same("duty 0", x.duty(d, 0), w.duties.get(d)[0]);
        same("duty 1", x.duty(d, 1), w.duties.get(d)[1]);
        int slowest = -1;
        int prompt = 0;
        for (int p = 0; p < w.folk.size(); p++) {
            if (w.folk.get(p).kind == 0) {
                slowest = slowest < 0 || w.way(p, d) > w.way(slowest, d) ? p : slowest;
                prompt |= w.way(p, d) == 0 ? 1 << p : 0;
            }
        }
        same("duty 2", x.duty(d, 2), slowest);
        same("prompt", x.prompt(d), prompt);
        for (int many = 1; many <= 6; many++) {
            same("club " + many, x.club(d, many), Model.club(w, d, many));
        }
        List<int[]> came = new ArrayList<>(Model.days(w, 1).get(0).get(d).came);
        came.sort(Model.firstFirst(w, d));
        for (int i = 0; i <= came.size(); i++) {
            same("coming " + i + " 0", x.coming(d, i, 0), i < came.size() ? came.get(i)[0] : -1);
            same("coming " + i + " 1", x.coming(d, i, 1), i < came.size() ? came.get(i)[1] : -1);
        }
        same("spread", x.spread(d), came.isEmpty() ? -1 : came.get(came.size() - 1)[1] - came.get(0)[1]);
        int minutes = r.nextInt(121);
        int soonest = -1;
        List<List<Model.Turn>> all = Model.days(w, 40);
        for (int day = 40; day >= 1; day--) {
            soonest = all.get(day - 1).get(d).behind >= minutes ? day : soonest;
        }
        same("soonest", x.soonest(d, minutes), soonest);
    }

    private void askChoices() {
        int[] rota = Model.rota(w);
        same("rota", x.rota(-1), rota == null ? -2 : rota[0]);
        for (int d = 0; d < w.duties.size(); d++) {
            same("rota " + d, x.rota(d), rota == null ? -2 : rota[d + 1]);
        }
        int far = 4 + r.nextInt(27);
        int towers = Model.towers(w, far);
        same("towers " + far, x.towers(far, 0), Integer.bitCount(towers));
        same("the places " + far, x.towers(far, 1), towers);
        List<Integer> habits = Model.habits(w, seen);
        same("habits 0", x.habits(0), habits.size());
        same("habits 1", x.habits(1), habits.isEmpty() ? -1 : habits.get(0));
        same("habits 2", x.habits(2), Model.fits(w, seen) ? 1 : 0);
        int[] next = Model.next(w, seen);
        same("next 0", x.next(0), next[0]);
        same("next 1", x.next(1), next[1]);
    }

    private void run() {
        // of more than 512 calls nothing is promised: a second time only, if there were few
        for (int i = 0; i < 2 && calls < 150; i++) {
            int many = r.nextInt(r.nextInt(5) == 0 ? 90 : 12);
            for (int k = 0; k < many; k++) {
                act();
            }
            look();
            askDays();
            if (!w.folk.isEmpty()) {
                askPerson(r.nextInt(w.folk.size()));
            }
            if (!w.duties.isEmpty()) {
                askDuty(r.nextInt(w.duties.size()));
            }
            askChoices();
            // asking must have changed nothing
            look();
        }
    }

    public static void main(String[] args) {
        int many = args.length > 0 ? Integer.parseInt(args[0]) : 120;
        for (int seed = 1; seed <= many; seed++) {
            new ModelTest(seed).run();
        }
        CHECK.end();
    }
}
