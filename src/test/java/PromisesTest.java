/** Each promise by answers worked out by hand from the document, with its edges and what it refuses. */
public final class PromisesTest {
    private static final Check C = new Check();
    private static final int NONE = LateRingers.NONE;
    private static final String NO_SUCH = Check.NO_SUCH;
    private static final String ILLEGAL = Check.ILLEGAL;
    /** Two who come, a mule, a cook; two duties. On the first day 1 is LAST (by 14), then 0 (by 27). */
    private static final String TOWN = "person 10 2 0;person 4 0 5;mule 9 0 3;cook 50 0 9;duty 100 0;duty 200 6;pace 2;";

    private static LateRingers town() {
        return Check.of(TOWN);
    }

    private static void newObject() {
        LateRingers x = new LateRingers();
        C.same("NONE", NONE, -1);
        int[] counts = {0, 0, 2, 0, NONE, 0, 0, 0, 0, 0, 0, 0, 0};
        for (int what = 0; what < counts.length; what++) {
            C.same("count " + what + " of a new object", x.count(what), counts[what]);
        }
        C.same("fault of a new object", x.fault(), NONE);
        C.no("restore of a new object", x.restore());
        C.refuses("person of nobody", NO_SUCH, () -> x.person(0, 0));
        C.refuses("duty of none", NO_SUCH, () -> x.duty(0, 0));
        C.same("days without duties", x.days(20), 20);
        C.same("undo", x.undo(), 0);
        C.same("undo of none", x.undo(), NONE);
        C.same("habits without people", x.habits(0), 0);
        C.same("the first habit without people", x.habits(1), NONE);
        C.same("next without people", x.next(0), NONE);
        C.same("how many next without people", x.next(1), 0);
        C.same("years without people", x.years(1, 40, 0), NONE);
        C.same("years' minutes without people", x.years(1, 40, 1), 0);
        C.same("rota without duties", x.rota(NONE), 0);
        C.same("towers without homes", x.towers(0, 0), 0);
        C.same("no places", x.towers(0, 1), 0);
    }

    private static void counts() {
        LateRingers x = town();
        int[] counts = {4, 2, 2, 0, NONE, 0, 2, 0, 0, 0, 0, 0, 0};
        for (int what = 0; what < counts.length; what++) {
            C.same("count " + what, x.count(what), counts[what]);
        }
        x.days(1);
        x.ill(1, true);
        x.ill(3, true);
        x.feed(0, 0, 0, 0, 0);
        x.see(0, 1, 100);
        C.same("the DAY", x.count(3), 1);
        C.same("THE RINGER", x.count(4), 0);
        C.same("who is ILL", x.count(5), 10);
        C.same("HASTE of all", x.count(6), 3);
        C.same("ACTS", x.count(7), 3);
        C.same("SEEN", x.count(8), 1);
        C.same("bytes", x.count(9), 20);
        C.refuses("count(13)", NO_SUCH, () -> x.count(13));
        C.refuses("count(-1)", NO_SUCH, () -> x.count(-1));
    }

    private static void people() {
        LateRingers x = town();
        x.days(1);
        x.ill(0, true);
        int[][] want = {{10, 2, 0, 27, 0, 0, 1}, {4, 1, 5, 12, 1, 0, 0}, {9, 0, 3, 0, 0, 1, 0}, {50, 0, 9, 0, 0, 2, 0}};
        for (int p = 0; p < 4; p++) {
            for (int what = 0; what < 7; what++) {
                C.same("person(" + p + ", " + what + ")", x.person(p, what), want[p][what]);
            }
        }
        C.refuses("person(4, 0)", NO_SUCH, () -> x.person(4, 0));
        C.refuses("person(-1, 0)", NO_SUCH, () -> x.person(-1, 0));
        C.refuses("person(0, 7)", NO_SUCH, () -> x.person(0, 7));
        C.refuses("person(0, -1)", NO_SUCH, () -> x.person(0, -1));
    }

    private static void duties() {
        LateRingers x = town();
        C.same("DUE", x.duty(1, 0), 200);
        C.same("TOWER", x.duty(1, 1), 6);
        C.same("SLOWEST of the first", x.duty(0, 2), 1);
        C.same("SLOWEST of the second", x.duty(1, 2), 0);
        x.ill(1, true);
        C.same("SLOWEST may be ILL", x.duty(0, 2), 1);
        C.same("SLOWEST of like ones", Check.of("mule 60 0 9;person 3 0 1;person 3 0 1;duty 0 0;").duty(0, 2), 1);
        C.same("SLOWEST of no WAY", Check.of("cook 60 0 9;person 3 9 1;duty 0 0;").duty(0, 2), 1);
        C.same("SLOWEST of mules", Check.of("mule 60 0 9;cook 3 0 1;duty 0 0;").duty(0, 2), NONE);
        C.refuses("duty(2, 0)", NO_SUCH, () -> x.duty(2, 0));
        C.refuses("duty(-1, 0)", NO_SUCH, () -> x.duty(-1, 0));
        C.refuses("duty(0, 3)", NO_SUCH, () -> x.duty(0, 3));
        C.refuses("duty(0, -1)", NO_SUCH, () -> x.duty(0, -1));
    }

    private static void daysGoBy() {
        LateRingers x = town();
        C.same("days(0)", x.days(0), NONE);
        C.same("days(21)", x.days(21), NONE);
        C.same("days(-1)", x.days(-1), NONE);
        C.same("days(MAX)", x.days(Integer.MAX_VALUE), NONE);
        C.same("refused", x.count(11), 4);
        C.same("no ACTS", x.count(7), 0);
        C.same("days(2)", x.days(2), 2);
        C.same("HASTE of 0", x.person(0, 1), 3);
        C.same("HASTE of 1", x.person(1, 1), 2);
        for (int i = 0; i < 49; i++) {
            x.days(20);
        }
        C.same("the DAY", x.count(3), 982);
        C.same("days over the end", x.days(18), NONE);
        C.same("days to the end", x.days(17), 999);
        C.same("days behind the end", x.days(1), NONE);
        C.same("ACTS have an end", x.count(7), 40);
    }

    private static void rungEnds() {
        LateRingers x = Check.of("person 5 0 0;duty 1 0;duty 2 0;duty 3 0;duty 4 0;duty 5 0;duty 6 0;rings rung=999;");
        for (int i = 0; i < 9; i++) {
            x.days(20);
        }
        C.same("RUNG 999 at most", x.person(0, 4), 999);
        C.same("the rule sees the end", x.then(0, 1, 0), 2);
        C.same("RUNG later", x.later(0, 40, 1), 999);
        C.same("who RINGS, at the end, too", x.most(1), 0);
        C.same("who isn't IDLE at the end", x.idle(1), 0);
    }

    private static void turns() {
        LateRingers clamp = Check.of("person 60 0 30;duty 0 0;duty 500 0;pace 9;");
        C.same("LATE by 2 is kept to 120, too", clamp.then(1, 1, 0), 620);
        LateRingers nobody = Check.of("mule 5 0 5;cook 1 1 1;duty 10 0;duty 20 0;rings 7;");
        nobody.appoint(0);
        C.same("a mule RINGS", nobody.then(0, 1, 0), 17);
        C.same("nobody is LAST", nobody.then(0, 1, 1), NONE);
        C.same("nobody RINGS then", nobody.then(1, 1, 0), 20);
        LateRingers ill = town();
        ill.appoint(0);
        ill.ill(0, true);
        C.same("who is ILL RINGS", ill.later(0, 1, 1), 1);
        ill.days(1);
        C.same("LATE stays of who doesn't COME", ill.person(0, 3), 0);
        LateRingers like = Check.of("person 4 0 0;person 2 0 1;person 2 0 1;duty 0 2;pace 2;");
        C.same("of like ones the nearer, then the least", like.then(0, 1, 1), 0);
        LateRingers near = Check.of("person 0 0 4;person 4 0 2;person 4 0 2;duty 0 0;pace 2;");
        C.same("of like ones the nearer one", near.then(0, 1, 1), 1);
        LateRingers most = Check.of("person 9 58 0;duty 0 0;mends 9;");
        C.same("HASTE 60 at most", most.later(0, 1, 0), 59);
        LateRingers cooks = Check.of("cook 0 2 0;mule 0 3 0;duty 0 0;");
        cooks.days(1);
        C.same("who doesn't RING has HASTE 1 less, a cook, too", cooks.person(0, 1), 1);
        C.same("a mule, too", cooks.person(1, 1), 2);
        C.same("HASTE not below 0", cooks.later(0, 5, 0), 0);
        LateRingers ahead = Check.of("person 0 50 0;person 0 40 0;duty 0 0;duty 9 0;rings 5;");
        C.same("not ahead of when it RINGS", ahead.coming(1, 1, 1), 14);
        LateRingers day = Check.of("person 1 0 0;duty 0 0;rings day*10+duty;");
        C.same("the rule's day", day.then(0, 3, 0), 20);
    }

    private static void acts() {
        LateRingers x = town();
        C.same("hurry", x.hurry(0, 60), 2);
        C.same("hurry again", x.hurry(0, 0), 60);
        C.same("hurry(0, 61)", x.hurry(0, 61), NONE);
        C.same("hurry(0, -1)", x.hurry(0, -1), NONE);
        C.refuses("hurry(4, 61)", NO_SUCH, () -> x.hurry(4, 61));
        C.same("refused", x.count(11), 2);
        C.yes("ill", x.ill(3, true));
        C.no("ill again", x.ill(3, true));
        C.yes("well", x.ill(3, false));
        C.no("well again", x.ill(3, false));
        C.refuses("ill(-1)", NO_SUCH, () -> x.ill(-1, true) ? 1 : 0);
        C.same("refused", x.count(11), 4);
        x.ill(1, true);
        C.same("a cook isn't APPOINTED", x.appoint(3), -2);
        C.same("nor who is ILL", x.appoint(1), -2);
        C.same("a mule is", x.appoint(2), NONE);
        C.same("who is it isn't", x.appoint(2), -2);
        C.same("another is", x.appoint(0), 2);
        C.refuses("appoint(4)", NO_SUCH, () -> x.appoint(4));
        C.same("refused", x.count(11), 7);
        C.same("due", x.due(0, 999), 100);
        C.same("due again", x.due(0, 0), 999);
        C.same("due(0, 1000)", x.due(0, 1000), NONE);
        C.same("due(0, -1)", x.due(0, -1), NONE);
        C.refuses("due(2, 1000)", NO_SUCH, () -> x.due(2, 1000));
        C.same("refused", x.count(11), 9);
        C.same("ACTS", x.count(7), 9);
    }

    private static void undoing() {
        LateRingers x = town();
        x.hurry(0, 9);
        x.days(3);
        x.ill(0, true);
        x.appoint(1);
        x.due(0, 7);
        x.hurry(1, 1);
        C.same("undo hurry", x.undo(), 5);
        C.same("undo due", x.undo(), 4);
        C.same("DUE", x.duty(0, 0), 100);
        C.same("undo appoint", x.undo(), 3);
        C.same("undo ill", x.undo(), 2);
        C.same("who is ILL", x.count(5), 0);
        C.same("undo days", x.undo(), 1);
        C.same("the DAY", x.count(3), 0);
        C.same("THE RINGER", x.count(4), NONE);
        C.same("LATE", x.person(1, 3), 0);
        C.same("RUNG", x.person(1, 4), 0);
        C.same("HASTE", x.person(0, 1), 9);
        C.same("undo hurry", x.undo(), 0);
        C.same("HASTE at first", x.person(0, 1), 2);
        C.same("undo none", x.undo(), NONE);
        C.same("that isn't refused", x.count(11), 0);
        for (int i = 0; i < 45; i++) {
            x.hurry(0, i);
        }
        C.same("40 are kept", x.count(7), 40);
        for (int i = 39; i >= 0; i--) {
            C.same("undo " + i, x.undo(), i);
        }
        C.same("the latest 40 are", x.person(0, 1), 4);
        C.same("no more", x.undo(), NONE);
        x.see(0, 1, 1);
        x.days(1);
        x.undo();
        C.same("SEEN is no ACT", x.count(8), 1);
    }

    private static void forecasts() {
        LateRingers x = town();
        C.same("then, the first day", x.then(1, 1, 0), 207);
        C.same("then, the second day", x.then(0, 2, 0), 113);
        C.same("LAST", x.then(0, 1, 1), 1);
        C.same("LAST", x.then(1, 1, 1), 0);
        C.refuses("then(2, 0, 0)", NO_SUCH, () -> x.then(2, 0, 0));
        C.refuses("then(0, 0, 2)", NO_SUCH, () -> x.then(0, 0, 2));
        C.refuses("then(0, 41, -1)", NO_SUCH, () -> x.then(0, 41, -1));
        C.refuses("then(0, 0, 0)", ILLEGAL, () -> x.then(0, 0, 0));
        C.refuses("then(0, 41, 1)", ILLEGAL, () -> x.then(0, 41, 1));
        C.same("later 0", x.later(0, 0, 0), 2);
        C.same("later HASTE", x.later(0, 2, 0), 3);
        C.same("later RUNG", x.later(1, 2, 1), 2);
        C.refuses("later(4, 41, 0)", NO_SUCH, () -> x.later(4, 41, 0));
        C.refuses("later(0, 41, 2)", NO_SUCH, () -> x.later(0, 41, 2));
        C.refuses("later(0, -1, 0)", ILLEGAL, () -> x.later(0, -1, 0));
        C.refuses("later(0, 41, 0)", ILLEGAL, () -> x.later(0, 41, 0));
        C.same("first of 1", x.first(1), 1);
        C.same("first of 0", x.first(0), 2);
        C.same("first of a mule", x.first(2), NONE);
        C.refuses("first(4)", NO_SUCH, () -> x.first(4));
        // HASTE of 1 sinks day by day: on the 39th it is 22, so that 1 is 2 LATE and LAST, and RINGS on the 40th
        C.same("first on the 40th day", Check.of("person 1 0 0;person 24 60 0;duty 0 0;rings 0;mends 0;").first(1), 40);
        C.same("first on the 41st day", Check.of("person 1 0 0;person 23 60 0;duty 0 0;rings 0;mends 0;").first(1), NONE);
        C.same("worst(1)", x.worst(1), 1);
        C.same("worst(2), of like ones the first", x.worst(2), 0);
        C.same("worst of no bell late", Check.of("duty 1 1;duty 2 2;").worst(40), 0);
        C.same("worst without duties", Check.of("person 1 1 1;").worst(1), NONE);
        C.refuses("worst(0)", ILLEGAL, () -> x.worst(0));
        C.refuses("worst(41)", ILLEGAL, () -> x.worst(41));
        C.same("idle(0)", x.idle(0), 15);
        C.same("idle(1)", x.idle(1), 13);
        C.same("idle(2)", x.idle(2), 12);
        C.refuses("idle(-1)", ILLEGAL, () -> x.idle(-1));
        C.refuses("idle(41)", ILLEGAL, () -> x.idle(41));
        C.same("the DAY is as it was", x.count(3), 0);
        C.same("no ACTS", x.count(7), 0);
    }

    private static void rounds() {
        LateRingers x = Check.of("person 5 0 0;duty 10 0;rings 30;mends 9;");
        C.same("round", x.round(0), 8);
        C.same("as behind", x.round(1), 7);
        LateRingers still = Check.of("cook 5 3 0;duty 10 0;");
        C.same("round of one whose HASTE sinks", still.round(0), 4);
        C.same("as behind", still.round(1), 3);
        LateRingers never = Check.of("cook 5 60 0;duty 10 0;");
        C.same("no round in 40 days", never.round(0), NONE);
        C.same("as behind none", never.round(1), NONE);
        LateRingers edge = Check.of("cook 5 39 0;duty 10 0;");
        C.same("round at the end", edge.round(0), 40);
        C.same("as behind", edge.round(1), 39);
        C.same("a day too late", Check.of("cook 5 40 0;duty 10 0;").round(0), NONE);
        C.refuses("round(2)", NO_SUCH, () -> x.round(2));
        C.refuses("round(-1)", NO_SUCH, () -> x.round(-1));
    }

    private static void delays() {
        LateRingers x = town();
        C.same("delay, nearer", x.delay(0, 0), 6);
        C.same("delay of who is LAST", x.delay(1, 0), 0);
        C.same("delay of a mule", x.delay(2, 0), NONE);
        C.same("delay of a cook", x.delay(3, 0), NONE);
        C.same("delay at the second", x.delay(1, 1), 15);
        C.refuses("delay(4, 0)", NO_SUCH, () -> x.delay(4, 0));
        C.refuses("delay(0, 2)", NO_SUCH, () -> x.delay(0, 2));
        x.ill(1, true);
        C.same("delay of who is ILL", x.delay(1, 0), NONE);
        LateRingers far = Check.of("person 0 0 0;person 0 0 20;person 1 0 0;duty 0 0;pace 5;");
        C.same("delay by more than 99", far.delay(0, 0), NONE);
        C.same("delay by 99", far.delay(2, 0), 99);
        LateRingers behind = Check.of("person 0 0 2;person 8 0 1;duty 0 0;pace 2;");
        C.same("one who is further must come behind", behind.delay(0, 0), 7);
        LateRingers like = Check.of("person 9 0 1;person 0 0 1;duty 0 0;");
        C.same("of like ones the least is LAST", like.delay(1, 0), 10);
    }

    private static void clubs() {
        LateRingers x = Check.of("person 4 0 0;person 6 0 0;mule 0 0 0;person 2 0 2;person 5 0 0;duty 0 0;pace 2;");
        C.same("club(0, 1)", x.club(0, 1), 2);
        C.same("club(0, 2)", x.club(0, 2), 10);
        C.same("club(0, 3)", x.club(0, 3), 26);
        C.same("club of all", x.club(0, 4), 27);
        C.same("club of more", x.club(0, 5), NONE);
        C.refuses("club(1, 7)", NO_SUCH, () -> x.club(1, 7));
        C.refuses("club(0, 0)", ILLEGAL, () -> x.club(0, 0));
        C.refuses("club(0, 7)", ILLEGAL, () -> x.club(0, 7));
        C.same("club(0, 6)", x.club(0, 6), NONE);
    }

    private static void rotas() {
        LateRingers x = town();
        C.same("rota", x.rota(NONE), 14);
        C.same("rota(0)", x.rota(0), 0);
        C.same("rota(1)", x.rota(1), 1);
        C.refuses("rota(2)", NO_SUCH, () -> x.rota(2));
        C.refuses("rota(-2)", NO_SUCH, () -> x.rota(-2));
        x.ill(0, true);
        C.same("too few", x.rota(NONE), -2);
        C.same("too few for the first", x.rota(0), -2);
        C.refuses("rota(2) of too few", NO_SUCH, () -> x.rota(2));
        LateRingers like = Check.of("cook 0 0 0;person 5 0 3;person 5 0 3;person 5 0 3;duty 1 3;duty 2 3;");
        C.same("like ones", like.rota(NONE), 10);
        C.same("the first row", like.rota(0), 1);
        C.same("the first row", like.rota(1), 2);
        LateRingers swap = Check.of("person 0 0 10;person 0 0 0;duty 1 0;duty 2 10;pace 1;");
        C.same("each to the nearest", swap.rota(NONE), 0);
        C.same("the second has the first", swap.rota(0), 1);
        LateRingers haste = Check.of("person 5 60 0;duty 1 0;");
        C.same("a WAY is not below 0", haste.rota(NONE), 0);
    }

    private static void places() {
        LateRingers x = town();
        C.same("towers(0, 0)", x.towers(0, 0), 4);
        C.same("towers(0, 1)", x.towers(0, 1), 1 + 8 + 32 + 512);
        C.same("towers(2, 0)", x.towers(2, 0), 2);
        C.same("towers(2, 1)", x.towers(2, 1), 130);
        C.same("towers(30, 1)", x.towers(30, 1), 1);
        C.same("the furthest place", Check.of("cook 0 0 30;").towers(0, 1), 1 << 30);
        C.same("the least bits", Check.of("mule 0 0 30;").towers(7, 1), 1 << 23);
        C.refuses("towers(31, 2)", NO_SUCH, () -> x.towers(31, 2));
        C.refuses("towers(0, -1)", NO_SUCH, () -> x.towers(0, -1));
        C.refuses("towers(31, 0)", ILLEGAL, () -> x.towers(31, 0));
        C.refuses("towers(-1, 1)", ILLEGAL, () -> x.towers(-1, 1));
    }

    private static void seeing() {
        LateRingers x = town();
        C.same("see(0, 0, 0)", x.see(0, 0, 0), NONE);
        C.same("see(0, 13, 0)", x.see(0, 13, 0), NONE);
        C.same("see(0, 1, -1)", x.see(0, 1, -1), NONE);
        C.same("see(0, 1, 2000)", x.see(0, 1, 2000), NONE);
        C.refuses("see(2, 0, 0)", NO_SUCH, () -> x.see(2, 0, 0));
        C.same("refused", x.count(12), 4);
        C.same("see(0, 12, 1999)", x.see(0, 12, 1999), 1);
        for (int i = 2; i <= 8; i++) {
            C.same("see " + i, x.see(1, 1, 0), i);
        }
        C.same("a ninth", x.see(1, 1, 0), NONE);
        C.same("refused", x.count(12), 5);
        C.refuses("a ninth of no duty", NO_SUCH, () -> x.see(-1, 1, 0));
        x.forget();
        C.same("forgotten", x.count(8), 0);
        C.same("STATUS stays", x.count(12), 5);
        C.same("see anew", x.see(1, 1, 0), 1);
    }

    private static void hearing() {
        // one alone is LAST at the first duty by its HABIT, and RINGS for the second one half of it late
        LateRingers x = Check.of("person 10 0 0;duty 100 0;duty 200 0;");
        C.same("habits without SEEN", x.habits(0), 60);
        C.same("the first of them", x.habits(1), 0);
        C.same("without", x.habits(2), 1);
        x.see(1, 1, 205);
        C.same("10 or 11 bring 5", x.habits(0), 1);
        C.same("11 is another", x.habits(1), 11);
        C.same("10 brings it, too", x.habits(2), 1);
        x.forget();
        x.see(1, 1, 220);
        C.same("40 or 41 bring 20", x.habits(0), 2);
        C.same("the first is 40", x.habits(1), 40);
        C.same("10 doesn't", x.habits(2), 0);
        C.same("the next duty", x.next(0), 0);
        C.same("of two habits", x.next(1), 2);
        x.see(1, 1, 221);
        C.same("none brings both", x.habits(0), 0);
        C.same("no first", x.habits(1), NONE);
        C.same("no next", x.next(0), NONE);
        C.same("none", x.next(1), 0);
        C.refuses("habits(3)", NO_SUCH, () -> x.habits(3));
        C.refuses("habits(-1)", NO_SUCH, () -> x.habits(-1));
        C.refuses("next(2)", NO_SUCH, () -> x.next(2));
        C.refuses("next(-1)", NO_SUCH, () -> x.next(-1));
        LateRingers two = Check.of("cook 0 0 0;person 0 0 0;duty 0 0;duty 0 0;rings duty*late;mends 0;");
        C.same("a cook's habit counts, too", two.habits(0), 120);
        // on the second day: 60 habits and 0; at the second bell LATE of the first one, so as often
        C.same("the first of like ones", two.next(0), 1);
        C.same("how unlike", two.next(1), 61);
        two.see(1, 1, 7);
        C.same("the second one's habit", two.habits(1), 107);
        LateRingers none = Check.of("person 1 0 0;");
        C.same("next without duties", none.next(0), NONE);
        C.same("how many", none.next(1), 0);
        LateRingers eight = Check.of("person 10 0 0;duty 100 0;duty 200 0;");
        for (int i = 0; i < 8; i++) {
            eight.see(1, 1, 205);
        }
        C.same("eight of one kind", eight.habits(0), 1);
        C.same("the first of them", eight.habits(1), 11);
        LateRingers twelfth = Check.of("person 10 0 0;duty 0 0;rings day*habit;");
        twelfth.see(0, 12, 110);
        C.same("on the twelfth day", twelfth.habits(2), 1);
        C.same("no other habit brings it", twelfth.habits(0), 0);
        // SEEN is asked from the moment of the question on
        LateRingers later = Check.of("person 0 0 0;duty 0 0;rings day;");
        later.see(0, 2, 1);
        C.same("on the second day", later.habits(2), 1);
        later.days(1);
        C.same("a day later it is another day", later.habits(2), 0);
    }

    private static void snowFalls() {
        LateRingers x = town();
        C.same("no snow", x.snow(0, 1, 0), 10);
        C.same("half", x.snow(0, 5, 5) + x.snow(1, 5, 5), 100000);
        C.same("of a cook", x.snow(3, 5, 5), 0);
        C.refuses("snow(4, 0, 11)", NO_SUCH, () -> x.snow(4, 0, 11));
        C.refuses("snow(0, 0, 5)", ILLEGAL, () -> x.snow(0, 0, 5));
        C.refuses("snow(0, 6, 5)", ILLEGAL, () -> x.snow(0, 6, 5));
        C.refuses("snow(0, 1, -1)", ILLEGAL, () -> x.snow(0, 1, -1));
        C.refuses("snow(0, 1, 11)", ILLEGAL, () -> x.snow(0, 1, 11));
        // LAST mends only in snow (LATE 15 and more): then the other one is LAST at the second duty
        LateRingers mends = Check.of("person 5 0 0;person 3 0 0;duty 0 0;duty 0 0;rings 0;mends 9*(14<late);");
        C.same("snow with 3 tenths", mends.snow(1, 1, 3), 3);
        C.same("no snow with 7", mends.snow(0, 1, 3), 7);
        C.same("snow for sure", mends.snow(1, 1, 10), 10);
        LateRingers mules = Check.of("mule 0 0 0;person 5 0 0;duty 0 0;");
        mules.appoint(0);
        C.same("a mule isn't THE RINGER for long", mules.snow(0, 1, 5), 0);
        C.same("the other one is", mules.snow(1, 1, 5), 10);
        LateRingers just = Check.of("person 5 0 0;person 3 0 0;duty 0 0;duty 0 0;rings 0;mends 9*(late=20);");
        C.same("by 15 minutes", just.snow(1, 1, 3), 3);
        LateRingers clear = Check.of("person 5 0 0;person 3 0 0;duty 0 0;duty 0 0;rings 0;mends 9*(late=5);");
        C.same("by none without snow", clear.snow(1, 1, 3), 7);
        C.same("two days", mends.snow(0, 2, 3) + mends.snow(1, 2, 3), 100);
        LateRingers still = Check.of("person 1 1 1;");
        C.same("nobody is THE RINGER", still.snow(0, 2, 5), 0);
        still.appoint(0);
        C.same("without duties one stays it", still.snow(0, 5, 5), 100000);
    }

    private static void games() {
        LateRingers idle = Check.of("mule 1 1 1;mule 2 2 2;duty 0 0;");
        C.same("who never RINGS doesn't hurry", idle.game(0, 1, 0), 1);
        C.same("neither", idle.game(0, 1, 1), 0);
        // 0 is always LAST, but for some days, if it hurries and 1 doesn't
        LateRingers x = Check.of("person 30 0 0;person 25 0 0;duty 0 0;rings 0;mends 0;");
        C.refuses("game(2, 2, 0)", NO_SUCH, () -> x.game(2, 2, 0));
        C.refuses("game(0, 2, 0)", NO_SUCH, () -> x.game(0, 2, 0));
        C.refuses("game(2, 0, 0)", NO_SUCH, () -> x.game(2, 0, 0));
        C.refuses("game(-1, 0, 0)", NO_SUCH, () -> x.game(-1, 0, 0));
        C.refuses("game(0, 0, 2)", NO_SUCH, () -> x.game(0, 0, 2));
        C.refuses("game(0, 0, 0)", ILLEGAL, () -> x.game(0, 0, 0));
        // gains of 0 and 1: neither hurries 1 8, 0 alone 4 4, 1 alone 1 7, both 0 7
        C.same("no couple rests", x.game(0, 1, 0), 0);
        C.same("none is the first", x.game(0, 1, 1), NONE);
        LateRingers mule = Check.of("person 30 0 0;person 25 0 0;mule 0 0 0;duty 0 0;rings 0;mends 0;");
        C.same("one couple with a mule", mule.game(0, 2, 0), 1);
        C.same("the person hurries", mule.game(0, 2, 1), 10);
        C.same("the other one does", mule.game(2, 0, 1), 1);
        C.same("HASTE is as it was", mule.person(0, 1), 0);
        // one day less to RING on makes good what hurrying costs: both are alike, so all that isn't worse rests
        LateRingers even = Check.of("person 30 0 0;person 21 0 0;mule 0 0 0;duty 0 0;rings 0;mends 0;");
        C.same("hurrying for nothing", even.game(0, 2, 1), 0);
        LateRingers once = Check.of("person 30 0 0;person 22 0 0;mule 0 0 0;duty 0 0;rings 0;mends 0;");
        C.same("hurrying for one day", once.game(0, 2, 0), 2);
        C.same("not to hurry is first", once.game(0, 2, 1), 0);
        LateRingers both = Check.of("person 60 60 0;person 60 60 0;duty 0 0;rings 0;");
        C.same("HASTE is 60 at most: hurrying brings nothing", both.game(0, 1, 1), 0);
    }

    private static void yearsBySeed() {
        LateRingers x = town();
        C.same("no days", x.years(7, 0, 0), 0);
        C.same("no minutes", x.years(7, 0, 1), 0);
        C.same("HASTE now", x.years(7, 0, 2), 2);
        // 0 draws 0 and 3: nothing
        C.same("nothing", x.years(0, 1, 2), 3);
        C.same("who has RUNG", x.years(0, 1, 0), 1);
        // 7 draws 0 and 1: HASTE of 0 is 0, and 1 behind being LAST, and 0 at the end
        C.same("HASTE is 0", x.years(7, 1, 2), 1);
        C.same("the bell", x.years(7, 1, 1), 7);
        // 2 draws 0 and 2: 0 RINGS for the first, 1 for the second; both keep HASTE
        C.same("THE RINGER", x.years(2, 1, 2), 4);
        C.same("of like ones the least", x.years(2, 1, 0), 0);
        // 3 draws 3 and 2: a cook RINGS
        C.same("a cook is THE RINGER", x.years(3, 1, 2), 3);
        LateRingers one = Check.of("person 5 0 0;duty 0 0;mends 9;");
        // 9 draws 0 of 1, and 0
        C.same("who falls ILL isn't LAST", one.years(9, 1, 2), 0);
        one.ill(0, true);
        C.same("who is well again is", one.years(9, 1, 2), 8);
        C.same("and stays ILL now", one.count(5), 1);
        C.same("seeds wrap, as an int does", x.years(-7, 1, 2), 1);
        C.refuses("years(0, 41, 3)", NO_SUCH, () -> x.years(0, 41, 3));
        C.refuses("years(0, 0, -1)", NO_SUCH, () -> x.years(0, 0, -1));
        C.refuses("years(0, 41, 0)", ILLEGAL, () -> x.years(0, 41, 0));
        C.refuses("years(0, -1, 0)", ILLEGAL, () -> x.years(0, -1, 0));
        C.same("nobody fell ILL", x.count(5), 0);
    }

    private static void arrivals() {
        LateRingers x = town();
        C.same("who is first", x.coming(0, 0, 0), 2);
        C.same("when", x.coming(0, 0, 1), 100);
        C.same("who is second", x.coming(0, 1, 0), 0);
        C.same("when", x.coming(0, 1, 1), 108);
        C.same("who is third", x.coming(0, 2, 0), 1);
        C.same("nobody", x.coming(0, 3, 0), NONE);
        C.same("never", x.coming(0, Integer.MAX_VALUE, 1), NONE);
        C.refuses("coming(2, 0, 0)", NO_SUCH, () -> x.coming(2, 0, 0));
        C.refuses("coming(0, -1, 0)", NO_SUCH, () -> x.coming(0, -1, 0));
        C.refuses("coming(0, 0, 2)", NO_SUCH, () -> x.coming(0, 0, 2));
        C.same("spread", x.spread(0), 14);
        C.same("spread of the second", x.spread(1), 27);
        C.same("spread of nobody", Check.of("cook 1 1 1;duty 0 0;").spread(0), NONE);
        C.same("spread of one", Check.of("mule 1 1 1;duty 0 0;").spread(0), 0);
        C.refuses("spread(2)", NO_SUCH, () -> x.spread(2));
        C.same("ahead", x.ahead(0, 0), 1);
        C.same("ahead of the mule", x.ahead(2, 0), 0);
        C.same("ahead of a cook", x.ahead(3, 0), NONE);
        C.refuses("ahead(4, 0)", NO_SUCH, () -> x.ahead(4, 0));
        C.refuses("ahead(0, 2)", NO_SUCH, () -> x.ahead(0, 2));
        LateRingers like = Check.of("person 0 0 2;person 4 0 0;person 2 0 1;person 2 0 1;duty 0 0;pace 2;");
        C.same("of like ones the nearer is first", like.coming(0, 0, 0), 1);
        C.same("then the lesser", like.coming(0, 1, 0), 2);
        C.same("then the other", like.coming(0, 2, 0), 3);
        C.same("then the further one", like.coming(0, 3, 0), 0);
        C.same("none of like ones is ahead", like.ahead(0, 0), 0);
    }

    private static void nearOnes() {
        LateRingers x = town();
        C.same("nearest(0)", x.nearest(0), 0);
        C.same("nearest(1)", x.nearest(1), 1);
        C.same("nearest(2), of like ones the first", x.nearest(2), 0);
        C.same("nearest without duties", Check.of("person 1 1 1;").nearest(0), NONE);
        C.refuses("nearest(4)", NO_SUCH, () -> x.nearest(4));
        C.same("neighbours(0, 0)", x.neighbours(0, 0), 0);
        C.same("neighbours(0, 3)", x.neighbours(0, 3), 4);
        C.same("neighbours(0, 5)", x.neighbours(0, 5), 6);
        C.same("neighbours(0, 30)", x.neighbours(0, 30), 14);
        C.refuses("neighbours(4, 31)", NO_SUCH, () -> x.neighbours(4, 31));
        C.refuses("neighbours(0, 31)", ILLEGAL, () -> x.neighbours(0, 31));
        C.refuses("neighbours(0, -1)", ILLEGAL, () -> x.neighbours(0, -1));
        C.same("loses(1)", x.loses(1), 1);
        C.same("loses(0)", x.loses(0), 2);
        C.same("loses(2)", x.loses(2), 0);
        C.refuses("loses(4)", NO_SUCH, () -> x.loses(4));
        C.same("late(0, 0)", x.late(0, 0), 8);
        C.same("late(1, 0), ahead of the second", x.late(1, 0), 14);
        C.same("late(1, 1)", x.late(1, 1), 12);
        C.same("late(3, 0)", x.late(3, 0), NONE);
        C.same("late(2, 1)", x.late(2, 1), 0);
        C.refuses("late(4, 0)", NO_SUCH, () -> x.late(4, 0));
        C.refuses("late(0, 2)", NO_SUCH, () -> x.late(0, 2));
        x.ill(0, true);
        C.same("late of who is ILL", x.late(0, 0), NONE);
        LateRingers prompt = Check.of("person 4 6 1;person 4 5 1;mule 0 9 0;cook 0 9 0;person 0 1 0;duty 0 0;pace 2;");
        prompt.ill(4, true);
        C.same("prompt", prompt.prompt(0), 17);
        C.refuses("prompt(1)", NO_SUCH, () -> prompt.prompt(1));
    }

    private static void walksAndTwins() {
        LateRingers x = town();
        C.same("walk(0)", x.walk(0), 12);
        C.same("walk(1)", x.walk(1), 14);
        C.same("walk(3), from beyond", x.walk(3), 18);
        C.same("walk without duties", Check.of("person 1 1 1;").walk(0), 0);
        C.same("walk to where one is", Check.of("person 1 1 0;duty 0 0;").walk(0), 0);
        C.same("walk to the furthest", Check.of("person 1 1 30;duty 0 30;duty 0 30;").walk(0), 0);
        C.same("walk to one", Check.of("person 1 1 7;duty 0 3;pace 9;").walk(0), 36);
        C.refuses("walk(4)", NO_SUCH, () -> x.walk(4));
        C.same("twins", x.twins(), 0);
        LateRingers t = Check.of("person 1 2 3;mule 1 2 3;cook 1 2 3;person 1 3 3;person 2 2 3;person 1 2 4;");
        C.same("three are three couples", t.twins(), 3);
        t.hurry(3, 2);
        C.same("four are six", t.twins(), 6);
    }

    private static void mending() {
        LateRingers x = town();
        C.same("toMend(1, 1)", x.toMend(1, 1), 6);
        C.same("toMend(0, 1)", x.toMend(0, 1), 0);
        C.same("toMend of a cook", x.toMend(3, 40), 0);
        C.refuses("toMend(4, 0)", NO_SUCH, () -> x.toMend(4, 0));
        C.refuses("toMend(0, 0)", ILLEGAL, () -> x.toMend(0, 0));
        C.refuses("toMend(0, 41)", ILLEGAL, () -> x.toMend(0, 41));
        x.appoint(0);
        C.same("toMend of THE RINGER", x.toMend(0, 1), NONE);
        C.same("HASTE is as it was", x.person(0, 1), 2);
        // of like ones 0 is LAST, the least: so it must COME ahead of 1
        LateRingers most = Check.of("person 60 0 0;person 1 0 0;duty 0 0;duty 0 0;mends 0;");
        C.same("toMend with 60", most.toMend(0, 1), 60);
        C.same("toMend with more", Check.of("person 60 0 0;person 0 0 0;duty 0 0;duty 0 0;mends 0;").toMend(0, 1), NONE);
    }

    private static void bells() {
        LateRingers x = town();
        C.same("silent(0)", x.silent(0), 3);
        C.same("silent(1)", x.silent(1), 1);
        C.same("silent(2)", x.silent(2), 0);
        C.refuses("silent(-1)", ILLEGAL, () -> x.silent(-1));
        C.refuses("silent(41)", ILLEGAL, () -> x.silent(41));
        C.same("behind(0)", x.behind(0), 0);
        C.same("behind(1)", x.behind(1), 7);
        C.same("behind(2)", x.behind(2), 33);
        C.refuses("behind(-1)", ILLEGAL, () -> x.behind(-1));
        C.refuses("behind(41)", ILLEGAL, () -> x.behind(41));
        C.same("most(1)", x.most(1), 1);
        C.same("most(2)", x.most(2), 1);
        C.same("most of none", Check.of("person 1 1 1;duty 0 0;").most(1), NONE);
        C.refuses("most(0)", ILLEGAL, () -> x.most(0));
        C.refuses("most(41)", ILLEGAL, () -> x.most(41));
        C.same("soonest(0, 0)", x.soonest(0, 0), 1);
        C.same("soonest(0, 13)", x.soonest(0, 13), 2);
        C.same("soonest(0, 14)", x.soonest(0, 14), 3);
        C.same("soonest(0, 120)", x.soonest(0, 120), NONE);
        LateRingers slow = Check.of("person 1 0 0;duty 0 0;rings day;");
        C.same("soonest on the 40th day", slow.soonest(0, 39), 40);
        C.same("soonest on the 41st day", slow.soonest(0, 40), NONE);
        C.refuses("soonest(2, 121)", NO_SUCH, () -> x.soonest(2, 121));
        C.refuses("soonest(0, 121)", ILLEGAL, () -> x.soonest(0, 121));
        C.refuses("soonest(0, -1)", ILLEGAL, () -> x.soonest(0, -1));
        C.same("handed(0)", x.handed(0), 0);
        C.same("handed(1)", x.handed(1), 2);
        C.same("handed(2)", x.handed(2), 4);
        C.same("handed to one and kept", Check.of("person 1 1 1;duty 0 0;").handed(40), 1);
        C.same("nobody keeps it", Check.of("duty 0 0;").handed(40), 0);
        C.refuses("handed(-1)", ILLEGAL, () -> x.handed(-1));
        C.refuses("handed(41)", ILLEGAL, () -> x.handed(41));
    }

    private static void images() {
        LateRingers x = town();
        x.days(1);
        x.hurry(1, 33);
        x.see(1, 2, 3);
        x.image();
        x.undo();
        x.undo();
        x.forget();
        x.ill(0, true);
        x.due(0, 1);
        x.appoint(2);
        x.hurry(1, 61);
        C.yes("restore", x.restore());
        C.same("the DAY", x.count(3), 1);
        C.same("THE RINGER", x.count(4), 0);
        C.same("who is ILL", x.count(5), 0);
        C.same("HASTE", x.person(1, 1), 33);
        C.same("LATE", x.person(0, 3), 27);
        C.same("RUNG", x.person(1, 4), 1);
        C.same("DUE", x.duty(0, 0), 100);
        C.same("ACTS", x.count(7), 2);
        C.same("SEEN", x.count(8), 1);
        C.same("STATUS is no part of it", x.count(11), 1);
        C.same("undo", x.undo(), 1);
        C.same("HASTE ahead of it", x.person(1, 1), 1);
        C.same("undo days", x.undo(), 0);
        C.same("the DAY", x.count(3), 0);
        C.yes("restore again", x.restore());
        C.same("the DAY", x.count(3), 1);
        x.days(1);
        x.image();
        x.days(1);
        C.yes("restore another one", x.restore());
        C.same("the DAY", x.count(3), 2);
    }

    public static void main(String[] args) {
        newObject();
        counts();
        people();
        duties();
        daysGoBy();
        rungEnds();
        turns();
        acts();
        undoing();
        forecasts();
        rounds();
        delays();
        clubs();
        rotas();
        places();
        seeing();
        hearing();
        snowFalls();
        games();
        yearsBySeed();
        arrivals();
        nearOnes();
        walksAndTwins();
        mending();
        bells();
        images();
        C.end();
    }
}
