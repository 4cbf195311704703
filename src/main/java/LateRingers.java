import java.util.Arrays;
import java.util.NoSuchElementException;

/** Bells that are rung by those who are late. ../shared/DOC.md numbers the promises that are named here. */
public final class LateRingers {
    public static final int NONE = -1;

    private static final int MOST_PEOPLE = 8;
    private static final int MOST_DUTIES = 6;
    private static final int MOST_BYTES = 700;
    private static final int MOST_ACTS = 40;
    private static final int MOST_SEEN = 8;
    private static final int MOST_HABIT = 60;
    private static final int MOST_HASTE = 60;
    private static final int MOST_PLACE = 30;
    private static final int MOST_DUE = 999;
    private static final int MOST_RUNG = 999;
    private static final int MOST_LATE = 999;
    private static final int MOST_DAY = 999;
    private static final int MOST_BEHIND = 120;
    private static final int MOST_MENDED = 9;
    private static final int DAYS_AT_ONCE = 20;
    private static final int DAYS_SEEN = 12;
    private static final int MOST_MINUTE = 1999;
    private static final int DAYS_AHEAD = 40;
    private static final int MOST_DELAY = 99;
    private static final int MOST_CLUB = 6;
    private static final int BYTES_FED = 20;
    private static final int USUAL_PACE = 2;
    private static final int MOST_PACE = 9;
    private static final int SNOW_MINUTES = 15;
    private static final int SNOW_DAYS = 5;
    private static final int GAME_DAYS = 8;
    private static final int GAME_HASTE = 9;
    private static final int TOO_FEW = -2;
    private static final int NOT_APPOINTED = -2;
    /** More than all WAYS of a ROTA can be together. */
    private static final int NO_ROTA = 1000000;

    private static final int PERSON = 0;
    private static final int MULE = 1;
    private static final int COOK = 2;

    private static final int OF_TEXTS = 0;
    private static final int OF_ACTS = 1;
    private static final int OF_SEEN = 2;

    private final Reader reader = new Reader();
    private final Story now = new Story();
    private final Story kept = new Story();
    private final Course course = new Course();
    private final int[] refused = new int[3];
    /** Rows that calls use again, so that no call makes any. */
    private final int[] past = new int[(DAYS_AHEAD + 1) * State.ALIKE];
    private final int[] leastWays = new int[1 << MOST_PEOPLE];
    private final int[] gains = new int[8];
    private final long[] heard = new long[2 * MOST_DUTIES];
    private Town town = new Town();
    private boolean isKept = false;
    private int faultPlace = NONE;

    public LateRingers() {
    }

    // ---- the text, promises 2 to 4

    public int feed(int a, int b, int c, int d, int e) {
        Tape tape = reader.tape;
        if (tape.fed + BYTES_FED > MOST_BYTES) {
            return NONE;
        }
        tape.put(a);
        tape.put(b);
        tape.put(c);
        tape.put(d);
        tape.put(e);
        return tape.fed;
    }

    public int town(int n) throws IllegalArgumentException {
        if (n < 0 || n > reader.tape.fed) {
            throw new IllegalArgumentException("the tape has not so many bytes");
        }
        Town told = reader.read(n);
        reader.tape.fed = 0;
        faultPlace = reader.faultPlace;
        if (told == null) {
            refused[OF_TEXTS]++;
            return reader.fault;
        }
        town = told;
        now.begin(told);
        isKept = false;
        return 0;
    }

    public int fault() {
        return faultPlace;
    }

    // ---- what stands, promises 5 to 7

    public int count(int what) throws NoSuchElementException {
        switch (what) {
            case 0: return town.people;
            case 1: return town.duties;
            case 2: return town.pace;
            case 3: return now.state.day();
            case 4: return now.state.ringer();
            case 5: return now.state.illBits();
            case 6: return hasteOfAll(now.state);
            case 7: return now.acts.many;
            case 8: return now.seen.many;
            case 9: return reader.tape.fed;
            case 10: return refused[OF_TEXTS];
            case 11: return refused[OF_ACTS];
            case 12: return refused[OF_SEEN];
            default: throw new NoSuchElementException("no such count");
        }
    }

    public int person(int person, int what) throws NoSuchElementException {
        needPerson(person);
        switch (what) {
            case 0: return town.habit[person];
            case 1: return now.state.hasteOf(person);
            case 2: return town.home[person];
            case 3: return now.state.lateOf(person);
            case 4: return now.state.rungOf(person);
            case 5: return town.kind[person];
            case 6: return now.state.isIll(person) ? 1 : 0;
            default: throw new NoSuchElementException("nothing such of a person");
        }
    }

    public int duty(int duty, int what) throws NoSuchElementException {
        needDuty(duty);
        switch (what) {
            case 0: return now.state.dueOf(duty);
            case 1: return town.tower[duty];
            case 2: return slowest(duty);
            default: throw new NoSuchElementException("nothing such of a duty");
        }
    }

    // ---- acts, promises 8 to 13

    public int days(int many) {
        if (many < 1 || many > DAYS_AT_ONCE || now.state.day() + many > MOST_DAY) {
            refused[OF_ACTS]++;
            return NONE;
        }
        now.acts.keep(now.state);
        Course c = fromNow();
        c.manyDays(many);
        now.state.copyFrom(c.state);
        return now.state.day();
    }

    public int hurry(int person, int haste) throws NoSuchElementException {
        needPerson(person);
        if (haste < 0 || haste > MOST_HASTE) {
            refused[OF_ACTS]++;
            return NONE;
        }
        int was = now.state.hasteOf(person);
        now.acts.keep(now.state);
        now.state.setHaste(person, haste);
        return was;
    }

    public boolean ill(int person, boolean is) throws NoSuchElementException {
        needPerson(person);
        if (now.state.isIll(person) == is) {
            refused[OF_ACTS]++;
            return false;
        }
        now.acts.keep(now.state);
        now.state.turnHealth(person);
        return true;
    }

    public int appoint(int person) throws NoSuchElementException {
        needPerson(person);
        int was = now.state.ringer();
        if (was == person || town.kind[person] == COOK || now.state.isIll(person)) {
            refused[OF_ACTS]++;
            return NOT_APPOINTED;
        }
        now.acts.keep(now.state);
        now.state.setRinger(person);
        return was;
    }

    public int due(int duty, int minute) throws NoSuchElementException {
        needDuty(duty);
        if (minute < 0 || minute > MOST_DUE) {
            refused[OF_ACTS]++;
            return NONE;
        }
        int was = now.state.dueOf(duty);
        now.acts.keep(now.state);
        now.state.setDue(duty, minute);
        return was;
    }

    public int undo() {
        return now.acts.takeBack(now.state) ? now.acts.many : NONE;
    }

    // ---- what comes, if only days go by: promises 14 to 19

    public int then(int duty, int k, int what) throws NoSuchElementException, IllegalArgumentException {
        needDuty(duty);
        needWhat(what, 1);
        needRange(k, 1, DAYS_AHEAD);
        Course c = fromNow();
        c.manyDays(k);
        return what == 0 ? c.state.dueOf(duty) + c.behind[duty] : c.last[duty];
    }

    public int later(int person, int days, int what) throws NoSuchElementException, IllegalArgumentException {
        needPerson(person);
        needWhat(what, 1);
        needRange(days, 0, DAYS_AHEAD);
        Course c = fromNow();
        c.manyDays(days);
        return what == 0 ? c.state.hasteOf(person) : c.state.rungOf(person);
    }

    public int first(int person) throws NoSuchElementException {
        needPerson(person);
        Course c = fromNow();
        for (int k = 1; k <= DAYS_AHEAD; k++) {
            c.oneDay();
            if (c.rangToday(person)) {
                return k;
            }
        }
        return NONE;
    }

    public int worst(int k) throws IllegalArgumentException {
        needRange(k, 1, DAYS_AHEAD);
        Course c = fromNow();
        c.manyDays(k);
        int found = NONE;
        for (int d = 0; d < town.duties; d++) {
            if (found == NONE || c.behind[d] > c.behind[found]) {
                found = d;
            }
        }
        return found;
    }

    public int idle(int days) throws IllegalArgumentException {
        needRange(days, 0, DAYS_AHEAD);
        Course c = fromNow();
        c.manyDays(days);
        int bits = 0;
        for (int p = 0; p < town.people; p++) {
            if (c.rings[p] == 0) {
                bits |= 1 << p;
            }
        }
        return bits;
    }

    public int round(int what) throws NoSuchElementException {
        needWhat(what, 1);
        Course c = fromNow();
        for (int k = 0; k <= DAYS_AHEAD; k++) {
            if (k > 0) {
                c.oneDay();
            }
            c.state.copyAlike(past, k);
            for (int i = 0; i < k; i++) {
                if (areAlike(i, k)) {
                    return what == 0 ? k : i;
                }
            }
        }
        return NONE;
    }

    // ---- what could be, promises 20 to 23

    public int delay(int person, int duty) throws NoSuchElementException {
        needPerson(person);
        needDuty(duty);
        Course c = nextDayTo(duty);
        if (!c.canBeLast(person)) {
            return NONE;
        }
        int least = 0;
        for (int p = 0; p < town.people; p++) {
            if (p != person && c.canBeLast(p)) {
                int tie = c.leads(person, p) ? 0 : 1;
                least = Math.max(least, c.comes[p] + tie - c.comes[person]);
            }
        }
        return least > MOST_DELAY ? NONE : least;
    }

    public int club(int duty, int many) throws NoSuchElementException, IllegalArgumentException {
        needDuty(duty);
        needRange(many, 1, MOST_CLUB);
        Course c = nextDayTo(duty);
        int bits = 0;
        for (int i = 0; i < many; i++) {
            int member = c.lastWithout(bits);
            if (member == NONE) {
                return NONE;
            }
            bits |= 1 << member;
        }
        return bits;
    }

    public int rota(int i) throws NoSuchElementException {
        if (i != NONE) {
            needDuty(i);
        }
        fillLeastWays();
        if (leastWays[0] >= NO_ROTA) {
            return TOO_FEW;
        }
        if (i == NONE) {
            return leastWays[0];
        }
        int taken = 0;
        int who = NONE;
        for (int d = 0; d <= i; d++) {
            who = firstOfRota(d, taken);
            if (who == NONE) {
                return TOO_FEW;
            }
            taken |= 1 << who;
        }
        return who;
    }

    /** From the furthest HOME down each place is the least that reaches it: so they are fewest and their bits least. */
    public int towers(int far, int what) throws NoSuchElementException, IllegalArgumentException {
        needWhat(what, 1);
        needRange(far, 0, MOST_PLACE);
        int bits = 0;
        int below = MOST_PLACE + 1;
        for (int i = 0; i < MOST_PEOPLE; i++) {
            int home = furthestHome(below);
            if (home == NONE) {
                break;
            }
            int place = Math.max(0, home - far);
            bits |= 1 << place;
            below = place - far;
        }
        return what == 0 ? Integer.bitCount(bits) : bits;
    }

    // ---- what is heard, promises 24 to 27

    public int see(int duty, int k, int minute) throws NoSuchElementException {
        needDuty(duty);
        boolean fits = k >= 1 && k <= DAYS_SEEN && minute >= 0 && minute <= MOST_MINUTE;
        if (!fits || !now.seen.add(duty, k, minute)) {
            refused[OF_SEEN]++;
            return NONE;
        }
        return now.seen.many;
    }

    public void forget() {
        now.seen.many = 0;
    }

    public int habits(int what) throws NoSuchElementException {
        needWhat(what, 2);
        if (what == 2) {
            return isAsSeen(NONE, 0) ? 1 : 0;
        }
        int many = 0;
        for (int p = 0; p < town.people; p++) {
            for (int h = 0; h <= MOST_HABIT; h++) {
                if (h != town.habit[p] && isAsSeen(p, h)) {
                    if (what == 1) {
                        return 100 * p + h;
                    }
                    many++;
                }
            }
        }
        return what == 0 ? many : NONE;
    }

    public int next(int what) throws NoSuchElementException {
        needWhat(what, 1);
        Arrays.fill(heard, 0L);
        for (int p = 0; p < town.people; p++) {
            for (int h = 0; h <= MOST_HABIT; h++) {
                if (h != town.habit[p] && isAsSeen(p, h)) {
                    hearSecondDay(p, h);
                }
            }
        }
        int found = NONE;
        int most = 0;
        for (int d = 0; d < town.duties; d++) {
            int unlike = Long.bitCount(heard[2 * d]) + Long.bitCount(heard[2 * d + 1]);
            if (unlike > most) {
                found = d;
                most = unlike;
            }
        }
        return what == 0 ? found : most;
    }

    // ---- chance and choice, promises 28 to 30

    public int snow(int person, int days, int tenths) throws NoSuchElementException, IllegalArgumentException {
        needPerson(person);
        needRange(days, 1, SNOW_DAYS);
        needRange(tenths, 0, 10);
        int total = 0;
        for (int fall = 0; fall < 1 << days; fall++) {
            int weight = 1;
            Course c = fromNow();
            for (int k = 0; k < days; k++) {
                boolean snows = (fall >> k & 1) == 1;
                weight *= snows ? tenths : 10 - tenths;
                c.snow = snows ? SNOW_MINUTES : 0;
                c.oneDay();
            }
            if (c.state.ringer() == person) {
                total += weight;
            }
        }
        return total;
    }

    public int game(int person, int other, int what) throws NoSuchElementException, IllegalArgumentException {
        needPerson(person);
        needPerson(other);
        needWhat(what, 1);
        if (person == other) {
            throw new IllegalArgumentException("both are one");
        }
        for (int couple = 0; couple < 4; couple++) {
            play(person, other, couple);
        }
        int many = 0;
        int found = NONE;
        for (int couple = 0; couple < 4; couple++) {
            if (gains[2 * couple] >= gains[2 * (couple ^ 2)] && gains[2 * couple + 1] >= gains[2 * (couple ^ 1) + 1]) {
                many++;
                found = found == NONE ? 10 * (couple >> 1) + (couple & 1) : found;
            }
        }
        return what == 0 ? many : found;
    }

    public int years(int seed, int n, int what) throws NoSuchElementException, IllegalArgumentException {
        needWhat(what, 2);
        needRange(n, 0, DAYS_AHEAD);
        Course c = fromNow();
        int drawn = seed;
        int total = 0;
        for (int k = 0; k < n; k++) {
            if (town.people > 0) {
                drawn = seedBehind(drawn);
                int who = bitsOf(drawn) % town.people;
                drawn = seedBehind(drawn);
                c.befall(who, bitsOf(drawn) % 5);
            }
            c.oneDay();
            total += c.behindToday();
        }
        switch (what) {
            case 0: return whoHasRungMost(c.state);
            case 1: return total;
            default: return hasteOfAll(c.state);
        }
    }

    // ---- the next day, promises 31 to 33, 42 and 43

    public int coming(int duty, int i, int what) throws NoSuchElementException {
        needDuty(duty);
        needWhat(what, 1);
        if (i < 0) {
            throw new NoSuchElementException("nobody comes ahead of the first one");
        }
        Course c = nextDayTo(duty);
        for (int p = 0; p < town.people; p++) {
            if (c.comes[p] != NONE && c.placeOf(p) == i) {
                return what == 0 ? p : c.comes[p];
            }
        }
        return NONE;
    }

    public int spread(int duty) throws NoSuchElementException {
        needDuty(duty);
        Course c = nextDayTo(duty);
        int least = NONE;
        int most = NONE;
        for (int p = 0; p < town.people; p++) {
            int minute = c.comes[p];
            if (minute != NONE) {
                least = least == NONE ? minute : Math.min(least, minute);
                most = Math.max(most, minute);
            }
        }
        return least == NONE ? NONE : most - least;
    }

    public int ahead(int person, int duty) throws NoSuchElementException {
        needPerson(person);
        needDuty(duty);
        Course c = nextDayTo(duty);
        if (c.comes[person] == NONE) {
            return NONE;
        }
        int many = 0;
        for (int p = 0; p < town.people; p++) {
            if (c.comes[p] != NONE && c.comes[p] < c.comes[person]) {
                many++;
            }
        }
        return many;
    }

    public int loses(int person) throws NoSuchElementException {
        needPerson(person);
        Course c = fromNow();
        c.oneDay();
        int bits = 0;
        for (int d = 0; d < town.duties; d++) {
            if (c.last[d] == person) {
                bits |= 1 << d;
            }
        }
        return bits;
    }

    public int late(int person, int duty) throws NoSuchElementException {
        needPerson(person);
        needDuty(duty);
        Course c = nextDayTo(duty);
        return c.comes[person] == NONE ? NONE : c.state.lateOf(person);
    }

    // ---- homes and ways, promises 34, 35 and 44 to 46

    public int nearest(int person) throws NoSuchElementException {
        needPerson(person);
        int found = NONE;
        for (int d = 0; d < town.duties; d++) {
            if (found == NONE || town.distance(person, d) < town.distance(person, found)) {
                found = d;
            }
        }
        return found;
    }

    public int neighbours(int person, int far) throws NoSuchElementException, IllegalArgumentException {
        needPerson(person);
        needRange(far, 0, MOST_PLACE);
        int bits = 0;
        for (int p = 0; p < town.people; p++) {
            if (p != person && Math.abs(town.home[p] - town.home[person]) <= far) {
                bits |= 1 << p;
            }
        }
        return bits;
    }

    public int prompt(int duty) throws NoSuchElementException {
        needDuty(duty);
        int bits = 0;
        for (int p = 0; p < town.people; p++) {
            if (town.kind[p] == PERSON && wayNow(p, duty) == 0) {
                bits |= 1 << p;
            }
        }
        return bits;
    }

    public int walk(int person) throws NoSuchElementException {
        needPerson(person);
        if (town.duties == 0) {
            return 0;
        }
        int least = MOST_PLACE;
        int most = 0;
        for (int d = 0; d < town.duties; d++) {
            least = Math.min(least, town.tower[d]);
            most = Math.max(most, town.tower[d]);
        }
        int home = town.home[person];
        int toAnEnd = Math.min(Math.abs(home - least), Math.abs(home - most));
        return town.pace * (toAnEnd + most - least);
    }

    public int twins() {
        int many = 0;
        for (int p = 0; p < town.people; p++) {
            for (int q = 0; q < p; q++) {
                if (areTwins(p, q)) {
                    many++;
                }
            }
        }
        return many;
    }

    // ---- so many days, promises 36 to 41

    public int toMend(int person, int days) throws NoSuchElementException, IllegalArgumentException {
        needPerson(person);
        needRange(days, 1, DAYS_AHEAD);
        for (int haste = 0; haste <= MOST_HASTE; haste++) {
            if (isSpared(person, haste, days)) {
                return haste;
            }
        }
        return NONE;
    }

    public int silent(int days) throws IllegalArgumentException {
        needRange(days, 0, DAYS_AHEAD);
        Course c = fromNow();
        int bits = (1 << town.duties) - 1;
        for (int k = 0; k < days; k++) {
            c.oneDay();
            for (int d = 0; d < town.duties; d++) {
                if (c.behind[d] != 0) {
                    bits &= ~(1 << d);
                }
            }
        }
        return bits;
    }

    public int behind(int days) throws IllegalArgumentException {
        needRange(days, 0, DAYS_AHEAD);
        Course c = fromNow();
        int total = 0;
        for (int k = 0; k < days; k++) {
            c.oneDay();
            total += c.behindToday();
        }
        return total;
    }

    public int most(int days) throws IllegalArgumentException {
        needRange(days, 1, DAYS_AHEAD);
        Course c = fromNow();
        c.manyDays(days);
        int found = NONE;
        for (int p = 0; p < town.people; p++) {
            if (c.rings[p] > (found == NONE ? 0 : c.rings[found])) {
                found = p;
            }
        }
        return found;
    }

    public int soonest(int duty, int minutes) throws NoSuchElementException, IllegalArgumentException {
        needDuty(duty);
        needRange(minutes, 0, MOST_BEHIND);
        Course c = fromNow();
        for (int k = 1; k <= DAYS_AHEAD; k++) {
            c.oneDay();
            if (c.behind[duty] >= minutes) {
                return k;
            }
        }
        return NONE;
    }

    public int handed(int days) throws IllegalArgumentException {
        needRange(days, 0, DAYS_AHEAD);
        Course c = fromNow();
        int many = 0;
        for (int k = 0; k < days; k++) {
            c.oneDay();
            for (int d = 0; d < town.duties; d++) {
                if (c.rang[d] != c.last[d]) {
                    many++;
                }
            }
        }
        return many;
    }

    // ---- the image, promises 47 and 48

    public void image() {
        kept.copyFrom(now);
        isKept = true;
    }

    public boolean restore() {
        if (isKept) {
            now.copyFrom(kept);
        }
        return isKept;
    }

    // ---- what calls ask for

    private void needPerson(int person) {
        if (person < 0 || person >= town.people) {
            throw new NoSuchElementException("no such person");
        }
    }

    private void needDuty(int duty) {
        if (duty < 0 || duty >= town.duties) {
            throw new NoSuchElementException("no such duty");
        }
    }

    private static void needWhat(int what, int most) {
        if (what < 0 || what > most) {
            throw new NoSuchElementException("nothing such is told");
        }
    }

    private static void needRange(int number, int least, int most) {
        if (number < least || number > most) {
            throw new IllegalArgumentException("a number is too small or too large");
        }
    }

    // ---- helpers of several calls

    private Course fromNow() {
        course.begin(town, now.state);
        return course;
    }

    /** The next DAY up to the turn of this DUTY, so that who COMES to it can be looked at. */
    private Course nextDayTo(int duty) {
        Course c = fromNow();
        for (int d = 0; d <= duty; d++) {
            c.turn(d);
        }
        return c;
    }

    private int hasteOfAll(State state) {
        int total = 0;
        for (int p = 0; p < town.people; p++) {
            total += state.hasteOf(p);
        }
        return total;
    }

    private int wayNow(int person, int duty) {
        return town.minutes(person, duty, town.habit[person], now.state.hasteOf(person));
    }

    private int slowest(int duty) {
        int found = NONE;
        for (int p = 0; p < town.people; p++) {
            if (town.kind[p] == PERSON && (found == NONE || wayNow(p, duty) > wayNow(found, duty))) {
                found = p;
            }
        }
        return found;
    }

    private boolean areAlike(int i, int k) {
        for (int cell = 0; cell < State.ALIKE; cell++) {
            if (past[i * State.ALIKE + cell] != past[k * State.ALIKE + cell]) {
                return false;
            }
        }
        return true;
    }

    private boolean areTwins(int p, int q) {
        return town.home[p] == town.home[q] && town.habit[p] == town.habit[q]
            && now.state.hasteOf(p) == now.state.hasteOf(q);
    }

    /** For each set of PEOPLE who have the first DUTIES, the least WAYS of the others; fuller sets are ahead. */
    private void fillLeastWays() {
        for (int taken = (1 << town.people) - 1; taken >= 0; taken--) {
            int duty = Integer.bitCount(taken);
            int least = duty >= town.duties ? 0 : NO_ROTA;
            for (int p = 0; p < town.people && duty < town.duties; p++) {
                if (mayHave(p, taken)) {
                    least = Math.min(least, wayNow(p, duty) + leastWays[taken | 1 << p]);
                }
            }
            leastWays[taken] = least;
        }
    }

    private int firstOfRota(int duty, int taken) {
        for (int p = 0; p < town.people; p++) {
            if (mayHave(p, taken) && wayNow(p, duty) + leastWays[taken | 1 << p] == leastWays[taken]) {
                return p;
            }
        }
        return NONE;
    }

    private boolean mayHave(int person, int taken) {
        return (taken >> person & 1) == 0 && town.kind[person] == PERSON && !now.state.isIll(person);
    }

    private int furthestHome(int below) {
        int found = NONE;
        for (int p = 0; p < town.people; p++) {
            if (town.home[p] < below) {
                found = Math.max(found, town.home[p]);
            }
        }
        return found;
    }

    /** Whether all SEEN would be so, if this one's HABIT were another (NONE: if nobody's were). */
    private boolean isAsSeen(int person, int habit) {
        Course c = fromNow();
        if (person != NONE) {
            c.habit[person] = habit;
        }
        int latest = now.seen.latestDay();
        for (int k = 1; k <= latest; k++) {
            c.oneDay();
            if (!now.seen.agrees(c, k)) {
                return false;
            }
        }
        return true;
    }

    /** A bell RINGS 0 to 120 minutes behind its DUE: two longs hold which of these were heard. */
    private void hearSecondDay(int person, int habit) {
        Course c = fromNow();
        c.habit[person] = habit;
        c.oneDay();
        c.oneDay();
        for (int d = 0; d < town.duties; d++) {
            int minutes = c.behind[d];
            heard[2 * d + (minutes >> 6 & 1)] |= 1L << (minutes & 63);
        }
    }

    private void play(int person, int other, int couple) {
        int hurries = couple >> 1;
        int otherHurries = couple & 1;
        Course c = fromNow();
        c.hasten(person, GAME_HASTE * hurries);
        c.hasten(other, GAME_HASTE * otherHurries);
        int gain = -hurries;
        int otherGain = -otherHurries;
        for (int k = 0; k < GAME_DAYS; k++) {
            c.oneDay();
            gain += c.rangToday(person) ? 0 : 1;
            otherGain += c.rangToday(other) ? 0 : 1;
        }
        gains[2 * couple] = gain;
        gains[2 * couple + 1] = otherGain;
    }

    private static int seedBehind(int seed) {
        return seed * 1103515245 + 12345;
    }

    private static int bitsOf(int seed) {
        return seed >> 16 & 32767;
    }

    private int whoHasRungMost(State state) {
        int found = NONE;
        for (int p = 0; p < town.people; p++) {
            if (found == NONE || state.rungOf(p) > state.rungOf(found)) {
                found = p;
            }
        }
        return found;
    }

    private boolean isSpared(int person, int haste, int days) {
        Course c = fromNow();
        c.state.setHaste(person, haste);
        for (int k = 0; k < days; k++) {
            c.oneDay();
            if (c.rangToday(person)) {
                return false;
            }
        }
        return true;
    }

    private static int within(int number, int least, int most) {
        return Math.max(least, Math.min(most, number));
    }

    // ---- what the text tells

    /** What no ACT changes; HASTE and DUE are as they are at first. */
    private static final class Town {
        final int[] kind = new int[MOST_PEOPLE];
        final int[] habit = new int[MOST_PEOPLE];
        final int[] haste = new int[MOST_PEOPLE];
        final int[] home = new int[MOST_PEOPLE];
        final int[] due = new int[MOST_DUTIES];
        final int[] tower = new int[MOST_DUTIES];
        int people = 0;
        int duties = 0;
        int pace = USUAL_PACE;
        /** null: the text has no such rule. */
        Rule rings = null;
        Rule mends = null;

        int distance(int person, int duty) {
            return Math.abs(home[person] - tower[duty]);
        }

        int minutes(int person, int duty, int hisHabit, int hisHaste) {
            return Math.max(0, pace * distance(person, duty) + hisHabit - hisHaste);
        }
    }

    /** A rule's steps, in the order in which a stack takes them: NUMBERS from 0 on, VALUES, then operators below. */
    private static final class Rule {
        static final int LATE = -1;
        static final int HABIT = -2;
        static final int HASTE = -3;
        static final int RUNG = -4;
        static final int DUTY = -5;
        static final int DAY = -6;
        static final int WAY = -7;
        static final int VALUES = 7;
        static final int OR = -101;
        static final int AND = -102;
        static final int NOT = -103;
        /** A parenthesis leaves five open operators at most, and only five stand within one another. */
        static final int DEEPEST = 64;

        private final int[] steps;
        private final int[] stack = new int[DEEPEST];

        Rule(int[] steps) {
            this.steps = steps;
        }

        int give(int[] values) {
            int top = 0;
            for (int i = 0; i < steps.length; i++) {
                int step = steps[i];
                if (step >= -VALUES) {
                    if (top < DEEPEST) {
                        stack[top] = step >= 0 ? step : values[-1 - step];
                        top++;
                    }
                } else if (step == NOT) {
                    if (top >= 1) {
                        stack[top - 1] = stack[top - 1] == 0 ? 1 : 0;
                    }
                } else if (top >= 2) {
                    top--;
                    stack[top - 1] = joined(step, stack[top - 1], stack[top]);
                }
            }
            return stack[0];
        }

        private static int joined(int step, int a, int b) {
            switch (step) {
                case -'+': return a + b;
                case -'-': return a - b;
                case -'*': return a * b;
                case -'/': return b == 0 ? 0 : a / b;
                case -'<': return a < b ? 1 : 0;
                case -'=': return a == b ? 1 : 0;
                case AND: return a != 0 && b != 0 ? 1 : 0;
                default: return a != 0 || b != 0 ? 1 : 0;
            }
        }
    }

    // ---- what changes

    /** One row of cells, so that a state is kept and brought back by one copy. */
    private static final class State {
        static final int RINGER = 0;
        static final int HASTE = 1;
        static final int LATE = HASTE + MOST_PEOPLE;
        /** By the cells below, and by these alone, ROUND tells whether two states are alike. */
        static final int ALIKE = LATE + MOST_PEOPLE;
        static final int RUNG = ALIKE;
        static final int DUE = RUNG + MOST_PEOPLE;
        static final int DAY = DUE + MOST_DUTIES;
        static final int ILL = DAY + 1;
        static final int CELLS = ILL + 1;

        private final int[] cells = new int[CELLS];

        State() {
            cells[RINGER] = NONE;
        }

        void begin(Town town) {
            Arrays.fill(cells, 0);
            cells[RINGER] = NONE;
            System.arraycopy(town.haste, 0, cells, HASTE, MOST_PEOPLE);
            System.arraycopy(town.due, 0, cells, DUE, MOST_DUTIES);
        }

        void copyFrom(State other) {
            System.arraycopy(other.cells, 0, cells, 0, CELLS);
        }

        void copyTo(int[] rows, int row) {
            System.arraycopy(cells, 0, rows, row * CELLS, CELLS);
        }

        void copyBack(int[] rows, int row) {
            System.arraycopy(rows, row * CELLS, cells, 0, CELLS);
        }

        void copyAlike(int[] rows, int row) {
            System.arraycopy(cells, 0, rows, row * ALIKE, ALIKE);
        }

        int day() {
            return cells[DAY];
        }

        void endDay() {
            cells[DAY]++;
        }

        int ringer() {
            return cells[RINGER];
        }

        void setRinger(int person) {
            cells[RINGER] = person;
        }

        int hasteOf(int person) {
            return cells[HASTE + person];
        }

        void setHaste(int person, int haste) {
            cells[HASTE + person] = haste;
        }

        int lateOf(int person) {
            return cells[LATE + person];
        }

        void setLate(int person, int minutes) {
            cells[LATE + person] = minutes;
        }

        int rungOf(int person) {
            return cells[RUNG + person];
        }

        void ringOnce(int person) {
            cells[RUNG + person] = Math.min(MOST_RUNG, cells[RUNG + person] + 1);
        }

        int dueOf(int duty) {
            return cells[DUE + duty];
        }

        void setDue(int duty, int minute) {
            cells[DUE + duty] = minute;
        }

        int illBits() {
            return cells[ILL];
        }

        boolean isIll(int person) {
            return (cells[ILL] >> person & 1) == 1;
        }

        void turnHealth(int person) {
            cells[ILL] ^= 1 << person;
        }
    }

    /** The states ahead of the latest ACTS, in a ring of rows. */
    private static final class Acts {
        private final int[] rows = new int[MOST_ACTS * State.CELLS];
        private int oldest = 0;
        int many = 0;

        void clear() {
            many = 0;
        }

        void keep(State state) {
            if (many == MOST_ACTS) {
                oldest = (oldest + 1) % MOST_ACTS;
                many--;
            }
            state.copyTo(rows, (oldest + many) % MOST_ACTS);
            many++;
        }

        boolean takeBack(State state) {
            if (many == 0) {
                return false;
            }
            many--;
            state.copyBack(rows, (oldest + many) % MOST_ACTS);
            return true;
        }

        void copyFrom(Acts other) {
            System.arraycopy(other.rows, 0, rows, 0, rows.length);
            oldest = other.oldest;
            many = other.many;
        }
    }

    /** Which DUTY RANG when, on which DAY from the moment of the question on. */
    private static final class Seen {
        private final int[] duty = new int[MOST_SEEN];
        private final int[] day = new int[MOST_SEEN];
        private final int[] minute = new int[MOST_SEEN];
        int many = 0;

        boolean add(int itsDuty, int k, int itsMinute) {
            if (many >= MOST_SEEN) {
                return false;
            }
            duty[many] = itsDuty;
            day[many] = k;
            minute[many] = itsMinute;
            many++;
            return true;
        }

        int latestDay() {
            int latest = 0;
            for (int i = 0; i < many; i++) {
                latest = Math.max(latest, day[i]);
            }
            return latest;
        }

        boolean agrees(Course c, int k) {
            for (int i = 0; i < many; i++) {
                int d = duty[i];
                if (day[i] == k && c.state.dueOf(d) + c.behind[d] != minute[i]) {
                    return false;
                }
            }
            return true;
        }

        void copyFrom(Seen other) {
            System.arraycopy(other.duty, 0, duty, 0, MOST_SEEN);
            System.arraycopy(other.day, 0, day, 0, MOST_SEEN);
            System.arraycopy(other.minute, 0, minute, 0, MOST_SEEN);
            many = other.many;
        }
    }

    /** All that an image keeps. */
    private static final class Story {
        final State state = new State();
        final Acts acts = new Acts();
        final Seen seen = new Seen();

        void begin(Town town) {
            state.begin(town);
            acts.clear();
            seen.many = 0;
        }

        void copyFrom(Story other) {
            state.copyFrom(other.state);
            acts.copyFrom(other.acts);
            seen.copyFrom(other.seen);
        }
    }

    // ---- how days go by

    /** DAYS that go by on a state of its own, with what the latest DAY and the latest turn brought. */
    private static final class Course {
        final State state = new State();
        final int[] habit = new int[MOST_PEOPLE];
        /** How often each has RUNG since the beginning, without the end that RUNG has. */
        final int[] rings = new int[MOST_PEOPLE];
        /** Of the latest turn: the minute in which each COMES, NONE of who doesn't; how far each HOME is. */
        final int[] comes = new int[MOST_PEOPLE];
        private final int[] far = new int[MOST_PEOPLE];
        /** Of each DUTY's latest turn: who RANG, how long behind its DUE, who was LAST. */
        final int[] rang = new int[MOST_DUTIES];
        final int[] behind = new int[MOST_DUTIES];
        final int[] last = new int[MOST_DUTIES];
        /** By how many minutes all who COME do so later. */
        int snow = 0;
        private final int[] values = new int[Rule.VALUES];
        private Town town = new Town();
        private int ringersToday = 0;

        void begin(Town itsTown, State from) {
            town = itsTown;
            state.copyFrom(from);
            System.arraycopy(itsTown.habit, 0, habit, 0, MOST_PEOPLE);
            Arrays.fill(rings, 0);
            ringersToday = 0;
            snow = 0;
        }

        void manyDays(int many) {
            for (int k = 0; k < many; k++) {
                oneDay();
            }
        }

        void oneDay() {
            ringersToday = 0;
            for (int d = 0; d < town.duties; d++) {
                turn(d);
            }
            for (int p = 0; p < town.people; p++) {
                if (!rangToday(p)) {
                    state.setHaste(p, Math.max(0, state.hasteOf(p) - 1));
                }
            }
            state.endDay();
        }

        void turn(int duty) {
            ring(duty);
            for (int p = 0; p < town.people; p++) {
                come(p, duty);
            }
            int found = lastWithout(0);
            last[duty] = found;
            state.setRinger(found);
            if (found != NONE) {
                mend(found, duty);
            }
        }

        private void ring(int duty) {
            int ringer = state.ringer();
            rang[duty] = ringer;
            behind[duty] = 0;
            if (ringer != NONE) {
                Rule rule = town.rings;
                int minutes = rule == null ? state.lateOf(ringer) / 2 : rule.give(valuesOf(ringer, duty));
                behind[duty] = within(minutes, 0, MOST_BEHIND);
                state.ringOnce(ringer);
                rings[ringer]++;
                ringersToday |= 1 << ringer;
            }
        }

        private void come(int person, int duty) {
            far[person] = town.distance(person, duty);
            if (town.kind[person] == COOK || state.isIll(person)) {
                comes[person] = NONE;
                return;
            }
            int minutes = snow;
            if (town.kind[person] != MULE) {
                minutes += behind[duty] + town.minutes(person, duty, habit[person], state.hasteOf(person));
            }
            comes[person] = state.dueOf(duty) + minutes;
            state.setLate(person, Math.min(MOST_LATE, minutes));
        }

        private void mend(int person, int duty) {
            Rule rule = town.mends;
            int more = rule == null ? 1 : within(rule.give(valuesOf(person, duty)), 0, MOST_MENDED);
            hasten(person, more);
        }

        void hasten(int person, int more) {
            state.setHaste(person, Math.min(MOST_HASTE, state.hasteOf(person) + more));
        }

        private int[] valuesOf(int person, int duty) {
            values[-1 - Rule.LATE] = state.lateOf(person);
            values[-1 - Rule.HABIT] = habit[person];
            values[-1 - Rule.HASTE] = state.hasteOf(person);
            values[-1 - Rule.RUNG] = state.rungOf(person);
            values[-1 - Rule.DUTY] = duty;
            values[-1 - Rule.DAY] = state.day();
            values[-1 - Rule.WAY] = town.distance(person, duty);
            return values;
        }

        /** Of YEARS: what was drawn falls to one, ahead of a DAY. */
        void befall(int person, int what) {
            if (what == 0) {
                state.turnHealth(person);
            } else if (what == 1) {
                state.setHaste(person, 0);
            } else if (what == 2) {
                state.setRinger(person);
            }
        }

        boolean rangToday(int person) {
            return (ringersToday >> person & 1) == 1;
        }

        int behindToday() {
            int total = 0;
            for (int d = 0; d < town.duties; d++) {
                total += behind[d];
            }
            return total;
        }

        boolean canBeLast(int person) {
            return comes[person] != NONE && town.kind[person] != MULE;
        }

        /** Of two who COME in one minute the one that counts first: nearer, or as near and less. */
        boolean leads(int person, int other) {
            return far[person] < far[other] || far[person] == far[other] && person < other;
        }

        /** Who is LAST at the latest turn, if those of these bits are left out. */
        int lastWithout(int bits) {
            int found = NONE;
            for (int p = 0; p < town.people; p++) {
                if ((bits >> p & 1) == 0 && canBeLast(p) && (found == NONE || comes[p] > comes[found]
                        || comes[p] == comes[found] && leads(p, found))) {
                    found = p;
                }
            }
            return found;
        }

        /** How many COME ahead of one at the latest turn, of like ones nearer and lesser ones. */
        int placeOf(int person) {
            int many = 0;
            for (int p = 0; p < town.people; p++) {
                if (p != person && comes[p] != NONE && (comes[p] < comes[person]
                        || comes[p] == comes[person] && leads(p, person))) {
                    many++;
                }
            }
            return many;
        }
    }

    // ---- how the text is read

    /** The bytes that were fed, and the TOKEN at which one stands in them. */
    private static final class Tape {
        static final int END = 0;
        static final int UNKNOWN = 1;
        static final int WORD = 'a';
        static final int NUMBER = '0';
        static final int MOST_DIGITS = 4;

        private final byte[] bytes = new byte[MOST_BYTES];
        int fed = 0;
        /** END, UNKNOWN, WORD, NUMBER, or the sign itself. */
        int kind = END;
        /** Where the TOKEN begins, and how many bytes it has. */
        int start = 0;
        int size = 0;
        private int length = 0;

        void put(int number) {
            for (int shift = 24; shift >= 0; shift -= 8) {
                if (fed < MOST_BYTES) {
                    bytes[fed] = (byte) (number >> shift);
                    fed++;
                }
            }
        }

        void open(int n) {
            length = Math.min(n, fed);
            start = 0;
            size = 0;
            advance();
        }

        void advance() {
            start += size;
            while (start < length && (bytes[start] == 32 || bytes[start] == 10)) {
                start++;
            }
            kind = END;
            size = 0;
            if (start < length) {
                int b = bytes[start];
                kind = b >= 'a' && b <= 'z' ? WORD : b >= '0' && b <= '9' ? NUMBER : isSign(b) ? b : UNKNOWN;
                size = kind == WORD ? row('a', 'z') : kind == NUMBER ? row('0', '9') : 1;
            }
        }

        /** How many bytes from the TOKEN's start on are from least to most. */
        private int row(char least, char most) {
            int end = start;
            while (end < length && bytes[end] >= least && bytes[end] <= most) {
                end++;
            }
            return end - start;
        }

        private static boolean isSign(int b) {
            return b == ';' || b == '(' || b == ')' || b == '+' || b == '-'
                || b == '*' || b == '/' || b == '<' || b == '=';
        }

        boolean is(String word) {
            if (kind != WORD || size != word.length()) {
                return false;
            }
            for (int i = 0; i < size; i++) {
                if (bytes[start + i] != word.charAt(i)) {
                    return false;
                }
            }
            return true;
        }

        /** The NUMBER's value; NONE, if it has too many digits. */
        int value() {
            if (size > MOST_DIGITS) {
                return NONE;
            }
            int value = 0;
            for (int i = 0; i < size; i++) {
                value = 10 * value + bytes[start + i] - '0';
            }
            return value;
        }
    }

    /** Reads a TOWN from the tape; each reading method tells whether it went without a FAULT. */
    private static final class Reader {
        static final int WRONG = 1;
        static final int TOO_MUCH = 2;
        static final int NO_VALUE = 3;
        static final int SECOND = 5;
        static final int MOST_WITHIN = 6;
        static final int MOST_NOTS = 6;

        final Tape tape = new Tape();
        int fault = 0;
        int faultPlace = NONE;
        private final int[] steps = new int[MOST_BYTES];
        private int stepsTold = 0;
        private boolean ofMends = false;
        private boolean isPaced = false;
        private Town draft = new Town();

        /** null, if there is a FAULT. */
        Town read(int n) {
            draft = new Town();
            isPaced = false;
            fault = 0;
            faultPlace = NONE;
            tape.open(n);
            for (int i = 0; i < MOST_BYTES && tape.kind != Tape.END; i++) {
                if (!line()) {
                    return null;
                }
            }
            return draft;
        }

        private boolean refuse(int what) {
            fault = what;
            faultPlace = tape.start;
            return false;
        }

        private boolean line() {
            boolean good;
            if (tape.is("person")) {
                good = human(PERSON);
            } else if (tape.is("mule")) {
                good = human(MULE);
            } else if (tape.is("cook")) {
                good = human(COOK);
            } else if (tape.is("duty")) {
                good = dutyTold();
            } else if (tape.is("pace")) {
                good = paceTold();
            } else if (tape.is("rings")) {
                good = ruleTold(false);
            } else if (tape.is("mends")) {
                good = ruleTold(true);
            } else {
                good = refuse(WRONG);
            }
            return good && taken(';');
        }

        private boolean taken(char sign) {
            if (tape.kind != sign) {
                return refuse(WRONG);
            }
            tape.advance();
            return true;
        }

        private boolean human(int kind) {
            int p = draft.people;
            if (p >= MOST_PEOPLE) {
                return refuse(TOO_MUCH);
            }
            draft.people = p + 1;
            draft.kind[p] = kind;
            tape.advance();
            draft.habit[p] = number(0, MOST_HABIT);
            draft.haste[p] = fault == 0 ? number(0, MOST_HASTE) : 0;
            draft.home[p] = fault == 0 ? number(0, MOST_PLACE) : 0;
            return fault == 0;
        }

        private boolean dutyTold() {
            int d = draft.duties;
            if (d >= MOST_DUTIES) {
                return refuse(TOO_MUCH);
            }
            draft.duties = d + 1;
            tape.advance();
            draft.due[d] = number(0, MOST_DUE);
            draft.tower[d] = fault == 0 ? number(0, MOST_PLACE) : 0;
            return fault == 0;
        }

        private boolean paceTold() {
            if (isPaced) {
                return refuse(SECOND);
            }
            isPaced = true;
            tape.advance();
            draft.pace = number(1, MOST_PACE);
            return fault == 0;
        }

        /** A NUMBER outside an EXPR; what it answers with a FAULT is of no use. */
        private int number(int least, int most) {
            int value = tape.kind == Tape.NUMBER ? tape.value() : NONE;
            if (tape.kind != Tape.NUMBER) {
                refuse(WRONG);
            } else if (value < least || value > most) {
                refuse(TOO_MUCH);
            } else {
                tape.advance();
            }
            return value;
        }

        private boolean ruleTold(boolean isMends) {
            Rule earlier = isMends ? draft.mends : draft.rings;
            if (earlier != null) {
                return refuse(SECOND);
            }
            ofMends = isMends;
            stepsTold = 0;
            tape.advance();
            if (!expr(0)) {
                return false;
            }
            Rule rule = new Rule(Arrays.copyOf(steps, stepsTold));
            if (isMends) {
                draft.mends = rule;
            } else {
                draft.rings = rule;
            }
            return true;
        }

        private boolean emit(int step) {
            if (stepsTold >= steps.length) {
                return refuse(TOO_MUCH);
            }
            steps[stepsTold] = step;
            stepsTold++;
            return true;
        }

        private boolean expr(int depth) {
            boolean begins = tape.kind == Tape.NUMBER || tape.kind == Tape.WORD || tape.kind == '(';
            if (depth >= MOST_WITHIN && begins) {
                return refuse(TOO_MUCH);
            }
            boolean good = allOf(depth);
            for (int i = 0; i < MOST_BYTES && good && tape.is("or"); i++) {
                tape.advance();
                good = allOf(depth) && emit(Rule.OR);
            }
            return good;
        }

        private boolean allOf(int depth) {
            boolean good = denied(depth);
            for (int i = 0; i < MOST_BYTES && good && tape.is("and"); i++) {
                tape.advance();
                good = denied(depth) && emit(Rule.AND);
            }
            return good;
        }

        private boolean denied(int depth) {
            int nots = 0;
            for (int i = 0; i <= MOST_NOTS && tape.is("not"); i++) {
                if (nots == MOST_NOTS) {
                    return refuse(TOO_MUCH);
                }
                nots++;
                tape.advance();
            }
            boolean good = compared(depth);
            for (int i = 0; i < nots && good; i++) {
                good = emit(Rule.NOT);
            }
            return good;
        }

        private boolean compared(int depth) {
            if (!sum(depth)) {
                return false;
            }
            int sign = tape.kind;
            if (sign != '<' && sign != '=') {
                return true;
            }
            tape.advance();
            return sum(depth) && emit(-sign);
        }

        private boolean sum(int depth) {
            boolean good = product(depth);
            for (int i = 0; i < MOST_BYTES && good && (tape.kind == '+' || tape.kind == '-'); i++) {
                int sign = tape.kind;
                tape.advance();
                good = product(depth) && emit(-sign);
            }
            return good;
        }

        private boolean product(int depth) {
            boolean good = part(depth);
            for (int i = 0; i < MOST_BYTES && good && (tape.kind == '*' || tape.kind == '/'); i++) {
                int sign = tape.kind;
                tape.advance();
                good = part(depth) && emit(-sign);
            }
            return good;
        }

        private boolean part(int depth) {
            if (tape.kind == '(') {
                tape.advance();
                return expr(depth + 1) && taken(')');
            }
            int step;
            if (tape.kind == Tape.NUMBER) {
                step = tape.value();
                if (step == NONE) {
                    return refuse(TOO_MUCH);
                }
            } else if (tape.kind == Tape.WORD) {
                step = valueTold();
                if (step == 0) {
                    return refuse(NO_VALUE);
                }
            } else {
                return refuse(WRONG);
            }
            tape.advance();
            return emit(step);
        }

        /** The step of the VALUE; 0, if the word is none in this EXPR. */
        private int valueTold() {
            if (tape.is("late")) {
                return Rule.LATE;
            }
            if (tape.is("habit")) {
                return Rule.HABIT;
            }
            if (tape.is("haste")) {
                return Rule.HASTE;
            }
            if (tape.is("rung")) {
                return Rule.RUNG;
            }
            if (tape.is("duty")) {
                return Rule.DUTY;
            }
            if (tape.is("day")) {
                return Rule.DAY;
            }
            return ofMends && tape.is("way") ? Rule.WAY : 0;
        }
    }
}
