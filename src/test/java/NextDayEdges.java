/** The edges of "==== 5.": who COMES on the next DAY, homes and ways, so many DAYS, and the constant. */
final class NextDayEdges {
    private static final String TOWN = TurnEdges.TOWN;

    private final Book b;

    NextDayEdges(Book b) {
        this.b = b;
    }

    void run() {
        b.part("==== 5", "==== 5. ", "## Promise 1:");
        coming();
        spreadAndAhead();
        nearOnes();
        toMend();
        slowest();
        silent();
        behind();
        most();
        soonest();
        handed();
        loses();
        late();
        prompt();
        walk();
        twins();
        b.says("The constants: `NONE = -1`: There is none; nobody.");
        b.fresh();
        b.is("count(4)", -1);
        b.is("worst(1)", -1);
        b.is("fault()", LateRingers.NONE);
    }

    private void coming() {
        b.says("At a DUTY on the next DAY, if only that goes by: who COMES i-th (of like ones nearer ones, then lesser ones first; mules, too); ");
        b.town(TOWN);
        b.is("coming(0, 0, 0)", 2);
        b.is("coming(0, 1, 0)", 0);
        b.is("coming(0, 2, 0)", 1);
        b.is("coming(0, 3, 0)", Book.NONE);
        b.is("coming(1, 1, 0)", 1);
        b.is("coming(1, 2, 0)", 0);
        b.town("person 0 0 2;person 4 0 0;person 2 0 1;person 2 0 1;person 3 0 0;person 5 0 0;duty 0 0;pace 2;");
        int[] row = {4, 1, 2, 3, 0, 5, Book.NONE};
        for (int i = 0; i < row.length; i++) {
            b.give("coming(0, " + i + ", 0)", row[i]);
        }
        // in one minute with a mule
        b.town("mule 0 0 3;person 0 9 1;mule 0 0 1;person 0 9 0;duty 0 0;");
        int[] mules = {3, 1, 2, 0};
        for (int i = 0; i < mules.length; i++) {
            b.give("coming(0, " + i + ", 0)", mules[i]);
            b.give("coming(0, " + i + ", 1)", 0);
        }
        b.town("person 1 1 1;".repeat(8) + "duty 0 1;");
        b.is("coming(0, 7, 0)", 7);
        b.is("coming(0, 8, 0)", Book.NONE);
        b.is("coming(0, 2147483647, 0)", Book.NONE);
        b.noSuch("coming(0, -1, 0)");

        b.says("when; ");
        b.town(TOWN);
        b.is("coming(0, 0, 1)", 100);
        b.is("coming(0, 1, 1)", 108);
        b.is("coming(0, 2, 1)", 114);
        b.is("coming(0, 3, 1)", Book.NONE);
        b.is("coming(1, 1, 1)", 212);
        b.is("coming(1, 2, 1)", 227);
        b.town("person 60 0 30;duty 999 0;pace 9;rings 120;");
        b.is("coming(0, 0, 1)", 1329);
        b.go("appoint(0)");
        b.is("coming(0, 0, 1)", 1449);
        b.town("mule 60 0 30;duty 0 0;");
        b.is("coming(0, 0, 1)", 0);
    }

    private void spreadAndAhead() {
        b.says("the SPREAD: by how much the last one of all who COME does so behind the first one; none. ");
        b.town(TOWN);
        b.is("spread(0)", 14);
        b.is("spread(1)", 27);
        b.go("ill(2, true)");
        b.is("spread(0)", 6);
        b.go("ill(1, true)");
        b.is("spread(0)", 0);
        b.go("ill(0, true)");
        b.is("spread(0)", Book.NONE);
        b.town("mule 0 0 0;person 0 9 0;duty 0 0;");
        b.is("spread(0)", 0);
        b.town("mule 5 0 0;duty 0 0;");
        b.is("spread(0)", 0);
        b.town("duty 0 0;");
        b.is("spread(0)", Book.NONE);

        b.says("AHEAD of one at a DUTY then: how many COME in an earlier minute than that one; none, if one doesn't COME.");
        b.town("person 5 0 0;person 5 0 0;person 4 0 0;person 6 0 0;mule 9 0 0;cook 0 0 0;duty 100 0;");
        b.is("ahead(0, 0)", 2);
        b.is("ahead(1, 0)", 2);
        b.is("ahead(2, 0)", 1);
        b.is("ahead(3, 0)", 4);
        b.is("ahead(4, 0)", 0);
        b.is("ahead(5, 0)", Book.NONE);
        b.go("ill(0, true)");
        b.is("ahead(0, 0)", Book.NONE);
        b.is("ahead(3, 0)", 3);
        b.go("hurry(1, 5)");
        b.is("ahead(1, 0)", 0);
        b.is("ahead(4, 0)", 0);
        b.town(TOWN);
        b.is("ahead(1, 0)", 2);
        b.is("ahead(1, 1)", 1);
    }

    private void nearOnes() {
        b.says("NEAREST: the TOWER's DUTY that is nearest to a HOME (of like ones the first); none. ");
        b.town("person 0 0 5;duty 0 9;duty 0 1;duty 0 2;duty 0 8;");
        b.is("nearest(0)", 2);
        b.town("person 0 0 5;duty 0 8;duty 0 2;");
        b.is("nearest(0)", 0);
        b.town("person 0 0 0;cook 0 0 30;mule 0 0 15;duty 0 30;duty 0 0;duty 0 0;");
        b.is("nearest(0)", 1);
        b.is("nearest(1)", 0);
        b.is("nearest(2)", 0);
        b.town("person 0 0 30;duty 0 0;");
        b.is("nearest(0)", 0);
        b.town("person 0 0 0;");
        b.is("nearest(0)", Book.NONE);

        b.says("NEIGHBOURS: others whose HOMES are so far (0 to 30) or less from one's, as bits. ");
        b.town("person 0 0 10;person 0 0 10;mule 0 0 7;cook 0 0 13;person 0 0 30;person 0 0 0;");
        b.illegal("neighbours(0, -1)");
        b.is("neighbours(0, 0)", 2);
        b.is("neighbours(0, 2)", 2);
        b.is("neighbours(0, 3)", 14);
        b.is("neighbours(0, 9)", 14);
        b.is("neighbours(0, 10)", 46);
        b.is("neighbours(0, 19)", 46);
        b.is("neighbours(0, 20)", 62);
        b.is("neighbours(5, 29)", 15);
        b.is("neighbours(5, 30)", 31);
        b.is("neighbours(4, 30)", 47);
        b.illegal("neighbours(0, 31)");
        b.town("person 0 0 10;");
        b.is("neighbours(0, 30)", 0);
        b.town("person 1 1 1;".repeat(8));
        b.is("neighbours(7, 0)", 127);
        b.is("neighbours(0, 0)", 254);
    }

    private void toMend() {
        b.says("TO MEND: the least HASTE (0 to 60) that one must have now so as not to RING in so many DAYS (1 to 40); none. ");
        // 0 COMES when it RINGS, and is LAST of like ones: 1 must do so, too, at the first of two bells
        mend("person 0 0 0;person 1 60 0;duty 0 0;duty 0 0;rings 0;mends 0;", 1, 1);
        mend("person 0 0 0;person 60 0 0;duty 0 0;duty 0 0;rings 0;mends 0;", 1, 60);
        mend("person 0 0 0;person 58 0 1;duty 0 0;duty 0 0;rings 0;mends 0;", 1, 60);
        mend("person 0 0 0;person 59 0 1;duty 0 0;duty 0 0;rings 0;mends 0;", 1, Book.NONE);
        mend("person 0 0 0;person 0 9 0;duty 0 0;duty 0 0;rings 0;mends 0;", 1, 0);
        // with one bell a DAY only who is LAST on a DAY RINGS, on the next one; HASTE sinks by 1 a DAY
        String one = "person 0 0 0;person 22 5 0;duty 0 0;rings 0;mends 0;";
        mend(one, 1, 0);
        mend(one, 2, 22);
        mend(one, 3, 23);
        mend(one, 39, 59);
        mend(one, 40, 60);
        b.illegal("toMend(1, 0)");
        b.illegal("toMend(1, 41)");
        mend("person 0 0 0;person 23 5 0;duty 0 0;rings 0;mends 0;", 39, 60);
        mend("person 0 0 0;person 23 5 0;duty 0 0;rings 0;mends 0;", 40, Book.NONE);
        b.go("appoint(1)");
        b.is("toMend(1, 1)", Book.NONE);
        b.is("person(1, 1)", 5);
        mend("person 0 0 0;cook 60 0 0;duty 0 0;", 40, 0);
        mend("person 0 0 0;mule 60 0 0;duty 0 0;", 40, 0);
        mend("person 0 0 0;person 60 0 0;", 40, 0);
    }

    private void mend(String text, int days, int want) {
        b.town(text);
        b.is("toMend(1, " + days + ")", want);
    }

    private void slowest() {
        b.says("SLOWEST: who has the greatest WAY (as told above) to a DUTY (of like ones the least; cooks and mules don't count); none. ");
        slow("person 5 0 0;person 6 0 0;duty 0 0;", 1);
        slow("person 5 0 0;person 5 0 0;duty 0 0;", 0);
        slow("person 6 0 0;person 5 0 0;duty 0 0;", 0);
        // nearer ones aren't ahead here
        slow("person 0 0 2;person 4 0 0;duty 0 0;", 0);
        slow("person 5 1 0;person 5 0 0;duty 0 0;", 1);
        slow("person 5 9 0;person 5 8 0;duty 0 0;", 0);
        slow("mule 60 0 30;cook 60 0 30;person 0 60 0;duty 0 0;", 2);
        slow("mule 60 0 30;cook 60 0 30;duty 0 0;", Book.NONE);
        slow("duty 0 0;", Book.NONE);
        slow("person 5 0 0;person 6 0 0;duty 0 0;", 1);
        // only cooks and mules don't count
        b.go("ill(1, true)");
        b.is("duty(0, 2)", 1);
        b.go("hurry(1, 2)");
        b.is("duty(0, 2)", 0);
    }

    private void slow(String text, int want) {
        b.town(text);
        b.is("duty(0, 2)", want);
    }

    private void silent() {
        b.says("SILENT in so many DAYS (0 to 40): DUTIES that RING just when they are DUE on each of them, as bits.");
        b.town("person 0 0 0;duty 0 0;duty 9 0;duty 5 0;rings (duty=1)*(day=39)+(duty=2);");
        b.go("appoint(0)");
        b.illegal("silent(-1)");
        b.is("silent(0)", 7);
        b.is("silent(1)", 3);
        b.is("silent(39)", 3);
        b.is("silent(40)", 1);
        b.illegal("silent(41)");
        // a bell that was late once isn't SILENT, if it isn't late again
        b.town("person 0 0 0;duty 0 0;rings (day=0);");
        b.go("appoint(0)");
        b.is("silent(1)", 0);
        b.is("silent(2)", 0);
        b.go("days(1)");
        b.is("silent(40)", 1);
        b.town("duty 0 0;".repeat(6));
        b.is("silent(0)", 63);
        b.is("silent(40)", 63);
        b.fresh();
        b.is("silent(40)", 0);
    }

    private void behind() {
        b.says("BEHIND in so many DAYS (0 to 40): by how much all DUTIES RING behind their DUE, all together. ");
        b.town("person 0 0 0;duty 0 0;duty 9 0;rings 120;");
        b.illegal("behind(-1)");
        b.is("behind(0)", 0);
        b.is("behind(1)", 120);
        b.is("behind(2)", 360);
        b.go("appoint(0)");
        b.is("behind(0)", 0);
        b.is("behind(1)", 240);
        b.is("behind(39)", 9360);
        b.is("behind(40)", 9600);
        b.illegal("behind(41)");
        b.town("duty 0 0;duty 999 0;");
        b.is("behind(40)", 0);
        b.fresh();
        b.is("behind(40)", 0);
    }

    private void most() {
        b.says("MOST in so many DAYS (1 to 40): who RINGS most often in them (of like ones the least); none. ");
        b.town("person 1 0 0;person 24 60 0;duty 0 0;rings 0;mends 0;");
        b.illegal("most(0)");
        b.is("most(1)", Book.NONE);
        b.is("most(2)", 0);
        b.is("most(40)", 0);
        b.illegal("most(41)");
        // 1 RINGS on the first DAY, 0 on the others
        b.go("appoint(1)");
        b.is("most(1)", 1);
        b.is("most(2)", 0);
        b.is("most(3)", 0);
        // by how often one RINGS in these DAYS, not ahead of them
        b.town("person 0 0 0;person 9 0 0;duty 0 0;rings 0;mends 0;");
        b.go("appoint(0)", "days(1)", "appoint(0)", "days(1)");
        b.is("person(0, 4)", 2);
        b.is("most(1)", 1);
        b.is("most(2)", 1);
        b.town("mule 0 0 0;duty 0 0;duty 0 0;");
        b.go("appoint(0)");
        b.is("most(1)", 0);
        b.town("person 0 0 0;");
        b.go("appoint(0)");
        b.is("most(40)", Book.NONE);
        b.fresh();
        b.is("most(1)", Book.NONE);
        b.is("most(40)", Book.NONE);
    }

    private void soonest() {
        b.says("SOONEST: the first DAY from now (1 to 40) on which a DUTY RINGS so much (0 to 120) behind its DUE, or more; none. ");
        b.town("person 0 0 0;duty 5 0;rings day;");
        b.go("appoint(0)");
        b.illegal("soonest(0, -1)");
        b.is("soonest(0, 0)", 1);
        b.is("soonest(0, 1)", 2);
        b.is("soonest(0, 38)", 39);
        b.is("soonest(0, 39)", 40);
        b.is("soonest(0, 40)", Book.NONE);
        b.is("soonest(0, 120)", Book.NONE);
        b.illegal("soonest(0, 121)");
        b.go("days(1)");
        b.is("soonest(0, 0)", 1);
        b.is("soonest(0, 1)", 1);
        b.is("soonest(0, 40)", 40);
        b.town("person 0 0 0;duty 5 0;duty 9 0;rings 119+duty;");
        b.go("appoint(0)");
        b.is("soonest(0, 119)", 1);
        b.is("soonest(0, 120)", Book.NONE);
        b.is("soonest(1, 120)", 1);
        b.town("duty 5 0;");
        b.is("soonest(0, 0)", 1);
        b.is("soonest(0, 1)", Book.NONE);
    }

    private void handed() {
        b.says("HANDED in so many DAYS (0 to 40): at how many DUTIES' turns THE RINGER becomes another one than rang for it (nobody counts as one, too). ");
        b.town("person 0 0 0;duty 0 0;duty 0 0;");
        b.illegal("handed(-1)");
        b.is("handed(0)", 0);
        b.is("handed(1)", 1);
        b.is("handed(40)", 1);
        b.illegal("handed(41)");
        b.go("appoint(0)");
        b.is("handed(40)", 0);
        // to nobody
        b.go("ill(0, true)");
        b.is("handed(1)", 1);
        b.is("handed(40)", 1);
        b.town("duty 0 0;duty 0 0;");
        b.is("handed(40)", 0);
        // each of two is LAST at the other one's TOWER
        b.town("person 0 0 0;person 0 0 30;duty 0 0;duty 0 30;rings 0;mends 0;");
        b.is("handed(1)", 2);
        b.is("handed(39)", 78);
        b.is("handed(40)", 80);
        b.go("appoint(1)");
        b.is("handed(1)", 1);
        b.fresh();
        b.is("handed(40)", 0);
    }

    private void loses() {
        b.says("LOSES on the next DAY: DUTIES at which one is LAST, as bits. ");
        b.town("person 0 0 0;person 0 0 30;mule 60 0 15;cook 60 0 15;" + "duty 0 0;duty 0 30;duty 0 29;duty 0 1;duty 0 2;duty 0 28;mends 0;");
        b.is("loses(0)", 38);
        b.is("loses(1)", 25);
        b.is("loses(2)", 0);
        b.is("loses(3)", 0);
        b.go("ill(1, true)");
        b.is("loses(0)", 63);
        b.is("loses(1)", 0);
        b.town("person 0 0 0;");
        b.is("loses(0)", 0);
        b.town(TOWN);
        b.is("loses(0)", 2);
        b.is("loses(1)", 1);
    }

    private void late() {
        b.says("LATE at a DUTY on the next DAY: how LATE one is; none, if one doesn't COME. ");
        b.town(TOWN);
        b.is("late(0, 0)", 8);
        b.is("late(0, 1)", 27);
        b.is("late(1, 0)", 14);
        b.is("late(1, 1)", 12);
        b.is("late(2, 0)", 0);
        b.is("late(2, 1)", 0);
        b.is("late(3, 0)", Book.NONE);
        b.is("late(3, 1)", Book.NONE);
        b.go("hurry(0, 10)");
        b.is("late(0, 0)", 0);
        b.go("hurry(0, 9)");
        b.is("late(0, 0)", 1);
        b.go("days(1)", "ill(0, true)");
        b.is("late(0, 0)", Book.NONE);
    }

    private void prompt() {
        b.says("PROMPT at a DUTY: who has no WAY to it (0, as told above; cooks and mules don't count), as bits. ");
        b.town("person 4 5 1;person 4 6 1;person 4 7 1;mule 0 9 0;cook 0 9 0;person 0 0 0;duty 0 0;duty 0 1;pace 2;");
        b.is("prompt(0)", 38);
        b.is("prompt(1)", 7);
        b.go("hurry(5, 2)", "hurry(0, 6)");
        b.is("prompt(1)", 39);
        b.is("prompt(0)", 39);
        b.go("ill(5, true)");
        b.is("prompt(0)", 39);
        b.town("person 0 0 0;".repeat(8) + "duty 0 0;");
        b.is("prompt(0)", 255);
        b.town("mule 0 9 0;cook 0 9 0;duty 0 0;");
        b.is("prompt(0)", 0);
        b.town("duty 0 0;");
        b.is("prompt(0)", 0);
    }

    private void walk() {
        b.says("A WALK: the fewest minutes from HOME by all TOWERS, by PACE. ");
        walks("person 0 0 0;duty 0 0;", 0);
        walks("person 0 0 7;duty 0 3;pace 9;", 36);
        walks("person 0 0 3;duty 0 7;pace 9;", 36);
        walks("person 0 0 0;duty 0 3;duty 0 7;pace 1;", 7);
        walks("person 0 0 9;duty 0 3;duty 0 7;pace 1;", 6);
        walks("person 0 0 3;duty 0 3;duty 0 7;pace 1;", 4);
        walks("person 0 0 7;duty 0 3;duty 0 7;pace 1;", 4);
        // from between two ends the nearer one first
        walks("person 0 0 4;duty 0 3;duty 0 7;pace 1;", 5);
        walks("person 0 0 5;duty 0 3;duty 0 7;pace 1;", 6);
        walks("person 0 0 6;duty 0 3;duty 0 7;pace 1;", 5);
        walks("person 0 0 15;duty 0 30;duty 0 0;duty 0 15;pace 9;", 405);
        walks("cook 60 0 30;duty 0 0;duty 0 30;pace 1;", 30);
        // neither HABIT nor HASTE counts
        walks("person 60 0 0;duty 0 5;", 10);
        walks("person 0 60 0;duty 0 5;", 10);
        walks("person 5 5 5;", 0);
    }

    private void walks(String text, int want) {
        b.town(text);
        b.is("walk(0)", want);
    }

    private void twins() {
        b.says("TWINS: couples of PEOPLE of one HOME, HABIT and HASTE: how many.");
        b.fresh();
        b.is("twins()", 0);
        b.town("person 1 2 3;");
        b.is("twins()", 0);
        b.town("person 1 2 3;cook 1 2 3;");
        b.is("twins()", 1);
        b.town("person 1 2 3;person 2 2 3;person 1 3 3;person 1 2 4;");
        b.is("twins()", 0);
        b.go("hurry(2, 2)");
        b.is("twins()", 1);
        b.town("person 1 2 3;mule 1 2 3;cook 1 2 3;");
        b.is("twins()", 3);
        b.town("person 1 2 3;".repeat(8));
        b.is("twins()", 28);
        b.town("person 1 2 3;person 4 5 6;person 1 2 3;person 4 5 6;");
        b.is("twins()", 2);
    }
}
