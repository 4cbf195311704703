/** The edges of "==== 4.": what is SEEN and what it tells, SNOW, A GAME, YEARS by a seed, STATUS. */
final class HeardEdges {
    private static final String TOWN = TurnEdges.TOWN;
    /** The second bell RINGS on the first DAY so much behind 200 as the HABIT is. */
    private static final String HEARD = "person 10 0 0;duty 100 0;duty 200 0;rings late;mends 0;";

    private final Book b;

    HeardEdges(Book b) {
        this.b = b;
    }

    void run() {
        b.part("==== 4", "==== 4. ", "==== 5. ");
        seen();
        habits();
        nextDuty();
        snow();
        game();
        gains();
        years();
        drawn();
        yearsTell();
        status();
    }

    private void seen() {
        b.says("SEEN (at most 8): that a DUTY RANG at a minute (0 to 1999) on the k-th DAY from now (1 to 12). ");
        b.town(TOWN);
        b.isRefused("see(0, 1, -1)", Book.NONE, Book.OF_SEEN);
        b.is("see(0, 1, 0)", 1);
        b.is("see(0, 1, 1999)", 2);
        b.isRefused("see(0, 1, 2000)", Book.NONE, Book.OF_SEEN);
        b.isRefused("see(0, 0, 100)", Book.NONE, Book.OF_SEEN);
        b.is("see(0, 12, 100)", 3);
        b.isRefused("see(0, 13, 100)", Book.NONE, Book.OF_SEEN);
        b.go("see(0, 1, 100)", "see(0, 1, 100)", "see(0, 1, 100)");
        b.is("see(1, 1, 100)", 7);
        b.is("see(1, 1, 100)", 8);
        b.isRefused("see(1, 1, 100)", Book.NONE, Book.OF_SEEN);
        b.is("count(8)", 8);
        // the least and the most that count, and the last of eight
        b.town("person 9 0 0;duty 0 0;rings habit*(day=11);");
        b.go("see(0, 1, 0)");
        b.is("habits(2)", 1);
        b.go("see(0, 12, 9)");
        b.is("habits(2)", 1);
        b.is("habits(0)", 0);
        b.go("forget()", "see(0, 12, 60)");
        b.is("habits(2)", 0);
        b.is("habits(1)", 60);
        b.go("forget()", "see(0, 12, 1999)");
        b.is("habits(0)", 0);
        b.go("forget()", "see(0, 1, 0)", "see(0, 1, 0)", "see(0, 1, 0)", "see(0, 1, 0)", "see(0, 1, 0)", "see(0, 1, 0)",
            "see(0, 1, 0)");
        b.is("habits(0)", 60);
        b.go("see(0, 12, 60)");
        b.is("habits(0)", 1);
        // from now: DAYS that go by move it along
        b.go("days(1)");
        b.is("habits(1)", Book.NONE);
        b.go("forget()", "see(0, 11, 60)");
        b.is("habits(1)", 60);
    }

    private void habits() {
        b.says("HABITS: PEOPLE and HABITS (0 to 60, another one than one has) by one of which from now on all SEEN would be so: ");
        b.town(HEARD);
        b.go("see(1, 1, 199)");
        b.is("habits(0)", 0);
        b.go("forget()", "see(1, 1, 200)");
        b.is("habits(0)", 1);
        b.is("habits(1)", 0);
        b.go("forget()", "see(1, 1, 260)");
        b.is("habits(0)", 1);
        b.is("habits(1)", 60);
        b.go("forget()", "see(1, 1, 261)");
        b.is("habits(0)", 0);
        b.go("forget()", "see(1, 1, 210)");
        b.is("habits(0)", 0);
        b.is("habits(1)", Book.NONE);
        b.go("forget()", "see(1, 1, 211)", "see(0, 1, 100)", "see(0, 2, 122)");
        b.is("habits(0)", 1);
        b.is("habits(1)", 11);
        b.go("see(0, 1, 101)");
        b.is("habits(0)", 0);

        b.says("how many; ");
        b.town("mule 10 0 0;cook 10 0 0;person 10 0 0;duty 100 0;duty 200 0;rings late;");
        b.is("habits(0)", 180);
        b.go("see(1, 1, 210)");
        b.is("habits(0)", 120);
        b.go("forget()", "see(1, 1, 211)");
        b.is("habits(0)", 1);
        b.fresh();
        b.is("habits(0)", 0);
        b.town("person 1 1 1;".repeat(8));
        b.is("habits(0)", 480);

        b.says("the first (100 by who, and the HABIT); ");
        b.is("habits(1)", 0);
        b.town("person 0 0 0;duty 0 0;");
        b.is("habits(1)", 1);
        b.town("mule 10 0 0;cook 10 0 0;person 10 0 0;duty 100 0;duty 200 0;rings late;");
        b.go("see(1, 1, 211)");
        b.is("habits(1)", 211);
        b.go("see(1, 1, 212)");
        b.is("habits(1)", Book.NONE);
        // either of two like ones could be LAST by a HABIT of 20
        b.town("person 10 0 0;person 10 0 0;duty 100 0;duty 200 0;rings late;");
        b.go("see(1, 1, 220)");
        b.is("habits(0)", 2);
        b.is("habits(1)", 20);
        b.town("cook 0 0 0;".repeat(7) + "person 0 0 0;duty 100 0;duty 200 0;rings late;");
        b.go("see(1, 1, 260)");
        b.is("habits(1)", 760);
        b.fresh();
        b.is("habits(1)", Book.NONE);

        b.says("whether it is so without (1). ");
        b.is("habits(2)", 1);
        b.town(HEARD);
        b.is("habits(2)", 1);
        b.go("see(1, 1, 209)");
        b.is("habits(2)", 0);
        b.go("forget()", "see(1, 1, 210)");
        b.is("habits(2)", 1);
        b.go("see(1, 1, 211)");
        b.is("habits(2)", 0);
    }

    private void nextDuty() {
        b.says("THE NEXT DUTY: that of which when it RINGS on the 2nd DAY from now would by these be most unlike (of like ones the first): ");
        // on the 2nd DAY the bells are 2 by HABIT and 3 by HABIT late, the latter 120 from 40 on
        b.town(HEARD);
        b.is("next(0)", 0);
        b.town("person 10 0 0;duty 100 0;duty 200 0;rings duty*late;mends 0;");
        b.is("next(0)", 1);
        b.town("person 10 0 0;duty 100 0;duty 200 0;duty 50 0;rings (0<duty)*habit;");
        b.is("next(0)", 1);
        b.town("person 10 0 0;duty 100 0;duty 200 0;rings duty*habit*(day=1);");
        b.is("next(0)", 1);
        b.go("days(1)");
        b.is("next(0)", 0);
        b.town("person 10 0 0;duty 100 0;duty 200 0;rings duty*habit*(not day=1);");
        b.is("next(0)", 0);

        b.says("how many; ");
        b.is("next(1)", 1);
        b.town(HEARD);
        b.is("next(1)", 60);
        b.town("person 10 0 0;person 10 0 0;duty 100 0;rings habit;");
        // a HABIT that is less than 10 leaves the other one LAST, who has 10
        b.is("next(1)", 51);
        b.town("person 0 0 0;duty 0 0;rings 2*habit;");
        b.is("next(1)", 60);
        b.town("person 60 0 0;duty 999 0;rings 2*habit;");
        b.is("next(1)", 60);
        b.town("person 60 0 0;duty 999 0;rings 2*habit+3;");
        // 59 gives 121, which is kept to 120: no other HABIT gives that
        b.is("next(1)", 60);
        b.town("person 60 0 0;duty 999 0;rings 2*habit+4;");
        // 58 and 59 are both kept to 120
        b.is("next(1)", 59);

        b.says("none without any.");
        b.town(HEARD);
        b.go("see(1, 1, 220)");
        b.is("next(0)", 0);
        b.is("next(1)", 1);
        b.go("see(1, 1, 221)");
        b.is("next(0)", Book.NONE);
        b.is("next(1)", 0);
        // the HABIT that one has is none of these
        b.go("forget()", "see(1, 1, 210)");
        b.is("next(0)", Book.NONE);
        b.is("next(1)", 0);
        b.town("duty 100 0;");
        b.is("next(0)", Book.NONE);
        b.is("next(1)", 0);
        b.town("person 1 1 1;");
        b.is("next(0)", Book.NONE);
        b.is("next(1)", 0);
    }

    private void snow() {
        b.says("SNOW: on each of so many DAYS (1 to 5) all who COME do so 15 minutes later, with so many tenths (0 to 10): ");
        // LAST mends only if it is 20 LATE: that is 0, by snow; then 1 is LAST at the second bell
        b.town("person 5 0 0;person 3 0 0;duty 0 0;duty 0 0;rings 0;mends 9*(late=20);");
        b.illegal("snow(0, 0, 5)");
        b.illegal("snow(0, 6, 5)");
        b.illegal("snow(0, 1, -1)");
        b.illegal("snow(0, 1, 11)");
        for (int tenths = 0; tenths <= 10; tenths++) {
            b.give("snow(1, 1, " + tenths + ")", tenths);
            b.give("snow(0, 1, " + tenths + ")", 10 - tenths);
        }
        // without snow nobody COMES later
        b.town("person 5 0 0;person 3 0 0;duty 0 0;duty 0 0;rings 0;mends 9*(late=5);");
        b.is("snow(1, 1, 3)", 7);
        b.is("snow(1, 1, 10)", 0);
        b.is("late(0, 0)", 5);
        // 15 minutes are behind when it RINGS, or behind when one would COME otherwise, whatever HASTE is
        b.town("person 5 40 0;person 3 60 0;duty 0 0;duty 0 0;rings 0;mends 9*(late=15);");
        b.is("snow(0, 1, 5)", 10);
        b.town("person 5 0 0;person 4 0 0;duty 0 0;duty 0 0;rings 8;mends 9*(late=27)+(late=28)*9;");
        // the bell of the second one is 8 late: 28 LATE in snow, 13 without
        b.is("snow(0, 1, 3)", 10);

        b.says("how likely one is THE RINGER behind them: as so many of 10 to the power of these DAYS. ");
        b.town("person 5 0 0;person 3 0 0;duty 0 0;duty 0 0;rings 0;mends 9*(late=20);");
        // once it has snowed, 1 is LAST on the second DAY, too
        b.is("snow(1, 2, 3)", 51);
        b.is("snow(0, 2, 3)", 49);
        b.is("snow(1, 2, 0)", 0);
        b.is("snow(0, 2, 0)", 100);
        b.is("snow(1, 2, 10)", 100);
        b.is("snow(0, 2, 10)", 0);
        b.town("person 5 0 0;person 3 0 0;duty 0 0;");
        b.go("ill(1, true)");
        b.is("snow(0, 1, 7)", 10);
        b.is("snow(0, 4, 7)", 10000);
        b.is("snow(0, 5, 7)", 100000);
        b.is("snow(0, 5, 0)", 100000);
        b.is("snow(0, 5, 10)", 100000);
        b.is("snow(1, 5, 7)", 0);
        b.go("ill(0, true)");
        b.is("snow(0, 5, 7)", 0);
        b.town("cook 5 0 0;duty 0 0;");
        b.is("snow(0, 1, 5)", 0);

        b.says("(A mule, too.)");
        b.town("mule 5 0 0;person 0 0 0;");
        b.is("snow(0, 5, 5)", 0);
        b.go("appoint(0)");
        b.is("snow(0, 5, 5)", 100000);
        b.town("mule 5 0 0;person 0 0 0;duty 0 0;");
        b.go("appoint(0)");
        b.is("snow(0, 1, 10)", 0);
        b.is("snow(1, 1, 10)", 10);
    }

    private void game() {
        b.says("A GAME of two PEOPLE: each hurries (HASTE is 9 more now, 60 at most), or not (1, 0): ");
        // 1 RINGS once in 8 DAYS, if it doesn't hurry; with HASTE 9 more it doesn't RING, with 8 more on the 8th DAY
        games("person 0 0 0;person 5 2 0;mule 0 0 0;duty 0 0;rings 0;mends 9;", 1, 2, 2, 0);
        // with HASTE 9 more it RINGS on the 8th DAY, with 10 more it doesn't
        games("person 0 0 0;person 6 2 0;mule 0 0 0;duty 0 0;rings 0;mends 9;", 1, 2, 1, 0);
        // with HASTE 60 it RINGS once (on the 6th DAY), without hurry twice; with 64 it wouldn't RING
        games("person 0 0 0;person 57 55 0;mule 0 0 0;duty 0 0;rings 0;mends 9;", 1, 2, 2, 0);
        // nobody hurries, who has HASTE 60 already
        games("person 60 0 0;person 0 60 0;duty 0 0;rings 0;mends 0;", 1, 0, 1, 0);
        b.is("person(1, 1)", 60);
    }

    private void gains() {
        b.says("each gains 1 for each of the next 8 DAYS on which one doesn't RING, less 1, if one hurried. ");
        // 1 is LAST on the 7th DAY, RINGS on the 8th alone: not to hurry gains 7, to hurry 8 less 1
        games("person 1 0 0;person 10 14 0;mule 0 0 0;duty 0 0;rings 0;mends 0;", 1, 2, 2, 0);
        // on the 9th: 8, or 8 less 1
        games("person 1 0 0;person 10 15 0;mule 0 0 0;duty 0 0;rings 0;mends 0;", 1, 2, 1, 0);
        // on the 7th and the 8th: 6, or 8 less 1
        games("person 1 0 0;person 10 13 0;mule 0 0 0;duty 0 0;rings 0;mends 0;", 1, 2, 1, 10);
        // to RING twice on a DAY is no more than once
        games("person 1 0 0;person 10 14 0;mule 0 0 0;duty 0 0;duty 0 0;duty 0 0;rings 0;mends 0;", 1, 2, 1, 10);

        b.says("A couple RESTS, if neither gains more by the other choice: how many; ");
        // gains of 0 and 1: neither hurries 1 8, 0 alone 4 4, 1 alone 1 7, both 0 7
        games("person 30 0 0;person 25 0 0;duty 0 0;rings 0;mends 0;", 0, 1, 0, Book.NONE);
        // nobody RINGS: only not to hurry rests
        games("mule 1 1 1;cook 1 1 1;duty 0 0;", 0, 1, 1, 0);
        games("person 1 1 1;person 1 1 1;", 0, 1, 1, 0);
        // each RINGS once, on the 8th DAY, and not at all, if it hurries: all couples rest
        games("person 0 0 15;person 0 21 30;person 0 20 0;duty 0 0;duty 0 30;pace 1;rings 0;mends 0;", 1, 2, 4, 0);

        b.says("the first (10 by the first one's and the other one's).");
        String three = "person 30 0 0;person 25 0 0;mule 0 0 0;duty 0 0;rings 0;mends 0;";
        games(three, 0, 2, 1, 10);
        games(three, 2, 0, 1, 1);
        // who doesn't hurry is LAST, if the other one does
        games("person 30 0 0;person 30 0 0;person 25 0 0;duty 0 0;rings 0;mends 0;", 0, 1, 1, 11);
        games("person 30 0 0;person 25 0 0;duty 0 0;rings 0;mends 0;", 1, 0, 0, Book.NONE);
    }

    private void games(String text, int person, int other, int many, int first) {
        b.town(text);
        b.is("game(" + person + ", " + other + ", 0)", many);
        b.is("game(" + person + ", " + other + ", 1)", first);
    }

    // ---- YEARS: seeds are drawn here by longs

    private static long behind(long seed) {
        return (seed * 1103515245L + 12345L) & 0xffffffffL;
    }

    private static int draw(long seed, int of) {
        return (int) (seed % 0x80000000L / 0x10000L % of);
    }

    /** A seed, from this one on, by which that one of so many is drawn first, then that number of 5. */
    private static int seedFor(int from, int people, int who, int what) {
        int seed = from;
        for (int i = 0; i < 100000; i++) {
            long first = behind(seed & 0xffffffffL);
            if (draw(first, people) == who && draw(behind(first), 5) == what) {
                return seed;
            }
            seed++;
        }
        throw new IllegalStateException("no such seed");
    }

    private void years() {
        b.says("YEARS by a seed: n DAYS (0 to 40) from now on: ");
        b.town("cook 0 60 0;");
        b.illegal("years(1, -1, 2)");
        b.is("years(1, 0, 2)", 60);
        b.is("years(-1, 0, 2)", 60);
        b.illegal("years(1, 41, 2)");
        for (int n = 0; n <= 40; n++) {
            b.give("years(7, " + n + ", 2)", hasteOfCooks(7, n, 60));
        }
        b.go("days(20)");
        b.give("years(7, 1, 2)", hasteOfCooks(7, 1, 40));

        b.says("ahead of each a DRAW of PEOPLE, then a DRAW of 5: ");
        int[] eight = {60, 58, 55, 51, 46, 40, 33, 25};
        StringBuilder text = new StringBuilder();
        for (int haste : eight) {
            text.append("cook 0 ").append(haste).append(" 0;");
        }
        int[] seeds = {Integer.MIN_VALUE, Integer.MAX_VALUE, -1, 0, 1, 2, 3, 4, 5, 12345, -12345, 1103515245, 65536, 1 << 30};
        for (int seed : seeds) {
            b.town(text.toString());
            for (int n : new int[] {1, 2, 3, 5, 8, 13, 21, 40}) {
                b.give("years(" + seed + ", " + n + ", 2)", hasteOfCooks(seed, n, eight));
            }
        }

        b.says("0 that one falls ILL, or is well, ");
        String one = "person 9 30 0;duty 0 0;duty 0 0;rings 7;";
        int fallsIll = seedFor(1, 1, 0, 0);
        b.town(one);
        b.is("years(" + fallsIll + ", 1, 1)", 0);
        b.go("ill(0, true)");
        b.is("years(" + fallsIll + ", 1, 1)", 7);
        b.is("count(5)", 1);

        b.says("1 HASTE of that one is 0, ");
        int slows = seedFor(1, 1, 0, 1);
        b.town(one);
        // it RINGS for the second one, and mends by 1 at each
        b.is("years(" + slows + ", 1, 2)", 2);
        b.is("years(" + slows + ", 1, 1)", 7);
        b.is("person(0, 1)", 30);

        b.says("2 that one is THE RINGER, ");
        int rings = seedFor(1, 1, 0, 2);
        b.town(one);
        b.is("years(" + rings + ", 1, 1)", 14);
        b.is("years(" + rings + ", 1, 2)", 32);
        b.is("count(4)", Book.NONE);
        b.go("ill(0, true)");
        b.is("years(" + rings + ", 1, 1)", 7);
        b.town("cook 9 30 0;duty 0 0;duty 0 0;rings 7;");
        b.is("years(" + rings + ", 1, 1)", 7);
        b.town("mule 9 30 0;duty 0 0;duty 0 0;rings 7;");
        b.is("years(" + rings + ", 1, 1)", 7);
        b.is("years(" + rings + ", 1, 2)", 30);

        b.says("else nothing: ");
        for (int what = 3; what <= 4; what++) {
            int seed = seedFor(1, 1, 0, what);
            b.town(one);
            b.is("years(" + seed + ", 1, 1)", 7);
            b.is("years(" + seed + ", 1, 2)", 32);
            b.go("ill(0, true)");
            b.is("years(" + seed + ", 1, 1)", 0);
            b.is("years(" + seed + ", 1, 2)", 29);
        }
        // of two it befalls who is drawn, not the other one
        b.town("cook 0 0 0;cook 0 0 0;duty 0 0;rings 7;");
        b.is("years(" + seedFor(9, 2, 1, 2) + ", 1, 0)", 1);
        b.is("years(" + seedFor(9, 2, 0, 2) + ", 1, 0)", 0);
    }

    /** HASTE of all in a town of cooks, without DUTIES: only a drawn 1 matters. */
    private static int hasteOfCooks(int seed, int days, int... first) {
        int[] haste = first.clone();
        long drawn = seed & 0xffffffffL;
        for (int k = 0; k < days; k++) {
            drawn = behind(drawn);
            int who = draw(drawn, haste.length);
            drawn = behind(drawn);
            if (draw(drawn, 5) == 1) {
                haste[who] = 0;
            }
            for (int p = 0; p < haste.length; p++) {
                haste[p] = haste[p] > 0 ? haste[p] - 1 : 0;
            }
        }
        int total = 0;
        for (int h : haste) {
            total += h;
        }
        return total;
    }

    private void yearsTell() {
        int nothing = seedFor(1, 2, 0, 4);
        b.says("who has RUNG most at the end (of like ones the least; -1 without); ");
        b.town("person 9 0 0;person 0 0 0;duty 0 0;rings 0;mends 0;");
        b.is("years(1, 0, 0)", 0);
        b.is("years(" + nothing + ", 1, 0)", 0);
        b.go("appoint(1)");
        b.is("years(" + nothing + ", 1, 0)", 1);
        b.go("days(1)");
        b.is("years(1, 0, 0)", 1);
        b.is("years(" + nothing + ", 1, 0)", 0);
        b.go("days(1)");
        b.is("years(1, 0, 0)", 0);
        b.town("duty 0 0;");
        b.is("years(1, 0, 0)", Book.NONE);
        b.is("years(1, 40, 0)", Book.NONE);

        b.says("how much all bells RANG behind DUE in these DAYS, all together; ");
        b.town("person 9 0 0;person 0 0 0;duty 0 0;duty 999 0;duty 5 0;rings 50+duty;mends 0;");
        b.is("years(1, 0, 1)", 0);
        b.is("years(" + nothing + ", 1, 1)", 103);
        b.go("appoint(1)");
        b.is("years(" + nothing + ", 1, 1)", 153);
        b.go("days(1)");
        b.is("years(" + nothing + ", 1, 1)", 153);
        b.is("years(1, 0, 1)", 0);

        b.says("HASTE of all. ");
        b.town("cook 0 60 0;mule 0 9 0;");
        b.is("years(1, 0, 2)", 69);
        b.is("years(" + nothing + ", 1, 2)", 67);
        b.is("years(" + seedFor(1, 2, 1, 1) + ", 1, 2)", 59);
    }

    private void drawn() {
        b.says("A seed becomes itself times 1103515245 and 12345 (an int that wraps); a DRAW of n is its bits 16 to 30 MOD n then. ");
        // seeds whose draws have the 31st bit, which counts for nothing, and of 3 and 5 would draw another number with it
        int from = Integer.MIN_VALUE;
        for (int people = 1; people <= 8; people++) {
            int[] haste = new int[people];
            StringBuilder text = new StringBuilder();
            for (int p = 0; p < people; p++) {
                haste[p] = 20 + 5 * p;
                text.append("cook 0 ").append(haste[p]).append(" 0;");
            }
            b.town(text.toString());
            for (int who = 0; who < people; who++) {
                for (int what = 0; what < 5; what++) {
                    int seed = seedFor(from, people, who, what);
                    b.give("years(" + seed + ", 1, 2)", hasteOfCooks(seed, 1, haste));
                    from += 536870912;
                }
            }
        }

        b.says("(Without PEOPLE nothing is drawn.)");
        b.town("duty 0 0;duty 7 7;rings 9;");
        b.is("years(" + seedFor(1, 1, 0, 2) + ", 40, 1)", 0);
        b.is("years(1, 40, 2)", 0);
        b.is("years(-2147483648, 40, 0)", Book.NONE);
    }

    private void status() {
        b.says("STATUS: how many calls were refused: 0 of TEXTS with a FAULT, 1 of ACTS, 2 of what is SEEN.");
        b.fresh();
        b.is("count(10)", 0);
        b.is("count(11)", 0);
        b.is("count(12)", 0);
        b.tell("?", 1);
        b.is("count(10)", 1);
        b.tell("pace 0;", 2);
        b.is("count(10)", 2);
        b.illegal("town(1)");
        b.tell(TOWN, 0);
        b.is("count(10)", 2);
        b.go("days(0)", "hurry(0, 61)", "ill(0, false)", "appoint(3)", "due(0, 1000)");
        b.is("count(11)", 5);
        b.isIdle("undo()", Book.NONE);
        b.isIdle("restore()", 0);
        b.noSuch("hurry(4, 61)");
        b.go("see(0, 0, 0)", "see(0, 13, 0)", "see(0, 1, 2000)");
        b.is("count(12)", 3);
        b.noSuch("see(2, 0, 0)");
        b.go("image()", "days(0)", "see(0, 0, 0)", "restore()", "hurry(0, 1)", "undo()", "forget()");
        b.tell("", 0);
        b.is("count(10)", 2);
        b.is("count(11)", 6);
        b.is("count(12)", 4);
    }
}
