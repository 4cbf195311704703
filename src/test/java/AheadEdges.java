/** The edges of "==== 3.": what comes, if only DAYS go by; TO DELAY, A CLUB, A ROTA, TOWERS. */
final class AheadEdges {
    private static final String TOWN = TurnEdges.TOWN;
    /**
     * HASTE of 1 sinks by 1 a DAY: on the 39th it is 22, so that 1 is 2 LATE, LAST ahead of 0, who is 1 LATE, and RINGS
     * on the 40th DAY.
     */
    private static final String ON_THE_40TH = "person 1 0 0;person 24 60 0;duty 0 0;rings 0;mends 0;";
    private static final String ON_THE_41ST = "person 1 0 0;person 23 60 0;duty 0 0;rings 0;mends 0;";

    private final Book b;

    AheadEdges(Book b) {
        this.b = b;
    }

    void run() {
        b.part("==== 3", "==== 3. ", "==== 4. ");
        then();
        later();
        first();
        worst();
        idle();
        round();
        delay();
        club();
        rota();
        towers();
    }

    private void then() {
        b.says("(If only DAYS go by, from now on:) ");
        b.town(TOWN);
        b.is("then(1, 2, 0)", 213);
        b.is("then(0, 3, 0)", 116);
        b.go("days(1)");
        b.is("then(1, 1, 0)", 213);
        b.is("then(0, 2, 0)", 116);
        b.go("undo()", "ill(1, true)", "appoint(0)", "hurry(0, 60)");
        // 1 doesn't COME, 0 RINGS at once, and is not LATE but for the bell
        b.is("then(0, 1, 0)", 100);
        b.is("then(0, 1, 1)", 0);
        b.is("then(1, 1, 0)", 200);

        b.says("THEN, on the k-th DAY from now (1 to 40): ");
        b.town("person 0 0 0;duty 5 0;rings day;");
        b.go("appoint(0)");
        b.illegal("then(0, 0, 0)");
        b.is("then(0, 1, 0)", 5);
        b.is("then(0, 2, 0)", 6);
        b.is("then(0, 39, 0)", 43);
        b.is("then(0, 40, 0)", 44);
        b.illegal("then(0, 41, 0)");
        b.go("days(3)");
        b.is("then(0, 1, 0)", 8);
        b.is("then(0, 40, 0)", 47);

        b.says("when a DUTY RINGS; ");
        b.town("duty 0 0;duty 999 30;");
        b.is("then(0, 1, 0)", 0);
        b.is("then(1, 1, 0)", 999);
        b.go("due(0, 77)");
        b.is("then(0, 1, 0)", 77);
        b.town("person 60 0 30;duty 999 0;pace 9;");
        b.is("then(0, 2, 0)", 1119);

        b.says("who is LAST at it. ");
        b.town("mule 5 0 0;cook 5 0 0;person 1 0 0;person 2 0 0;duty 0 0;");
        b.is("then(0, 1, 1)", 3);
        b.go("ill(3, true)");
        b.is("then(0, 1, 1)", 2);
        b.go("ill(2, true)");
        b.is("then(0, 1, 1)", Book.NONE);
        b.is("then(0, 40, 1)", Book.NONE);
    }

    private void later() {
        b.says("HASTE of one behind so many DAYS (0 to 40); ");
        b.town("cook 0 60 0;cook 0 40 0;cook 0 39 0;");
        b.illegal("later(0, -1, 0)");
        b.is("later(0, 0, 0)", 60);
        b.is("later(0, 1, 0)", 59);
        b.is("later(0, 39, 0)", 21);
        b.is("later(0, 40, 0)", 20);
        b.illegal("later(0, 41, 0)");
        b.is("later(1, 39, 0)", 1);
        b.is("later(1, 40, 0)", 0);
        b.is("later(2, 40, 0)", 0);

        b.says("how often one has RUNG then. ");
        b.town("person 0 0 0;duty 5 0;");
        b.is("later(0, 0, 1)", 0);
        b.is("later(0, 1, 1)", 0);
        b.is("later(0, 2, 1)", 1);
        b.go("appoint(0)");
        b.is("later(0, 0, 1)", 0);
        b.is("later(0, 1, 1)", 1);
        b.is("later(0, 40, 1)", 40);
        b.go("days(2)");
        b.is("later(0, 0, 1)", 2);
        b.is("later(0, 40, 1)", 42);
        b.illegal("later(0, 41, 1)");
        b.illegal("later(0, -1, 1)");
    }

    private void first() {
        b.says("FIRST: on which DAY from now (1 to 40) one RINGS first; none. ");
        b.town(ON_THE_40TH);
        b.is("first(0)", 2);
        b.is("first(1)", 40);
        b.go("days(1)");
        b.is("first(0)", 1);
        b.is("first(1)", 39);
        b.town(ON_THE_41ST);
        b.is("first(1)", Book.NONE);
        b.go("days(1)");
        b.is("first(1)", 40);
        b.go("appoint(1)");
        b.is("first(1)", 1);
        b.is("first(0)", 2);
        b.town("person 1 0 0;cook 0 0 0;mule 0 0 0;");
        b.go("appoint(0)");
        b.is("first(0)", Book.NONE);
        b.town("cook 0 0 0;mule 0 0 0;duty 0 0;");
        b.is("first(0)", Book.NONE);
        b.is("first(1)", Book.NONE);
        b.go("appoint(1)");
        b.is("first(1)", 1);
    }

    private void worst() {
        b.says("WORST on the k-th DAY: the DUTY that RINGS most behind its DUE (of like ones the first); none without. ");
        String duties = "person 0 0 0;duty 900 0;duty 5 0;duty 800 0;";
        b.town(duties + "rings 5;");
        // nobody RINGS for the first one on the first DAY
        b.is("worst(1)", 1);
        b.is("worst(2)", 0);
        b.go("appoint(0)");
        b.is("worst(1)", 0);
        b.town(duties + "rings 5+(duty=2);");
        b.is("worst(2)", 2);
        b.town(duties + "rings 5-(duty=0);");
        b.is("worst(2)", 1);
        b.town(duties + "rings 5+(duty=1)*(day=39);");
        b.illegal("worst(0)");
        b.is("worst(39)", 0);
        b.is("worst(40)", 1);
        b.illegal("worst(41)");
        b.town("duty 1 1;duty 2 2;");
        b.is("worst(1)", 0);
        b.is("worst(40)", 0);
        b.town("person 1 1 1;");
        b.is("worst(1)", Book.NONE);
        b.illegal("worst(0)");
    }

    private void idle() {
        b.says("IDLE: who doesn't RING in so many DAYS (0 to 40), as bits. ");
        b.town(ON_THE_40TH);
        b.illegal("idle(-1)");
        b.is("idle(0)", 3);
        b.is("idle(1)", 3);
        b.is("idle(2)", 2);
        b.is("idle(39)", 2);
        b.is("idle(40)", 0);
        b.illegal("idle(41)");
        b.town("mule 0 0 0;".repeat(7) + "cook 0 0 0;duty 0 0;");
        b.is("idle(0)", 255);
        b.is("idle(40)", 255);
        b.go("appoint(6)");
        b.is("idle(0)", 255);
        b.is("idle(1)", 191);
        b.fresh();
        b.is("idle(40)", 0);
    }

    private void round() {
        b.says("ROUND: the fewest DAYS (1 to 40) behind which HASTE, LATE, THE RINGER are as they were behind fewer DAYS (0 on): ");
        // neither the DAY nor RUNG counts
        rounds("person 0 0 0;duty 0 0;rings 0;mends 0;", "appoint(0)", 1, 0);
        rounds("person 0 0 0;", "ill(0, true)", 1, 0);
        // THE RINGER alone is another one behind the first DAY
        rounds("person 0 0 0;duty 0 0;rings 0;mends 0;", "hurry(0, 0)", 2, 1);
        rounds("person 0 0 0;person 0 0 0;duty 0 0;rings 0;mends 0;", "appoint(1)", 2, 1);
        // LATE alone
        rounds("person 5 0 0;duty 0 0;rings 0;mends 0;", "appoint(0)", 2, 1);
        rounds("person 6 0 0;person 5 0 0;duty 0 0;rings 0;mends 0;", "appoint(0)", 2, 1);
        // HASTE alone
        rounds("cook 0 1 0;", "hurry(0, 1)", 2, 1);
        rounds("cook 0 0 0;cook 0 1 0;", "hurry(0, 0)", 2, 1);

        b.says("how many; ");
        rounds("cook 0 38 0;", "hurry(0, 38)", 39, 38);
        rounds("cook 0 39 0;", "hurry(0, 39)", 40, 39);
        b.says("behind how many they were so; ");
        // HASTE, LATE, THE RINGER behind 3 and behind 7 DAYS: 1 0, 4 5, 1; behind 4: 0 1, 4 5, 1; 5: 0 1, 5 4, 0; 6: 1 0, 5 4, 0
        rounds("person 5 0 0;person 5 0 0;duty 0 0;rings 0;mends 1;", "hurry(0, 0)", 7, 3);
        rounds("person 5 0 0;duty 10 0;rings 30;mends 9;", "hurry(0, 0)", 8, 7);
        b.says("none.");
        rounds("cook 0 40 0;", "hurry(0, 40)", Book.NONE, Book.NONE);
        rounds("cook 0 60 0;", "hurry(0, 60)", Book.NONE, Book.NONE);
        b.go("days(20)");
        b.is("round(0)", Book.NONE);
        b.go("days(1)");
        b.is("round(0)", 40);
        b.is("round(1)", 39);
    }

    private void rounds(String text, String act, int many, int asBehind) {
        b.town(text);
        b.go(act);
        b.is("round(0)", many);
        b.is("round(1)", asBehind);
    }

    private void delay() {
        b.says("TO DELAY: the least (0 to 99) by which one must COME later at a DUTY on the next DAY, at that one alone,"
            + " so as to be LAST at it; none. ");
        b.town("person 0 0 0;person 8 0 10;duty 0 0;pace 9;");
        b.is("delay(0, 0)", 98);
        b.is("delay(1, 0)", 0);
        b.town("person 0 0 0;person 9 0 10;duty 0 0;pace 9;");
        b.is("delay(0, 0)", 99);
        b.town("person 0 0 0;person 10 0 10;duty 0 0;pace 9;");
        b.is("delay(0, 0)", Book.NONE);
        b.town("person 7 0 0;person 0 0 10;person 9 0 10;duty 0 0;pace 9;");
        b.is("delay(1, 0)", 9);
        b.is("delay(0, 0)", 92);
        b.town("person 60 0 0;person 0 0 1;duty 0 0;pace 1;");
        b.is("delay(1, 0)", 60);
        b.town("person 60 0 1;person 0 0 0;duty 0 0;pace 1;");
        b.is("delay(1, 0)", 61);
        // one who is as far and not the least must COME a minute behind
        b.town("person 60 0 1;person 60 0 1;person 60 0 1;duty 0 0;pace 1;");
        b.is("delay(0, 0)", 0);
        b.is("delay(1, 0)", 1);
        b.is("delay(2, 0)", 1);
        b.town("person 10 0 10;person 2 0 0;person 1 0 0;duty 0 0;pace 9;");
        b.is("delay(1, 0)", 98);
        b.is("delay(2, 0)", 99);
        b.go("hurry(0, 1)");
        b.is("delay(2, 0)", 98);
        b.town("person 9 0 10;person 0 0 10;duty 0 0;pace 9;");
        b.is("delay(1, 0)", 10);
        // the first bell of that DAY is as ever
        b.town(TOWN);
        b.is("delay(1, 1)", 15);
        b.is("delay(0, 0)", 6);
        b.is("delay(2, 0)", Book.NONE);
        b.is("delay(3, 0)", Book.NONE);
        b.go("ill(1, true)");
        b.is("delay(1, 0)", Book.NONE);
        b.is("delay(0, 0)", 0);
    }

    private void club() {
        b.says("A CLUB: the so many (1 to 6) who COME last to a DUTY on the next DAY (mules don't count;"
            + " of like ones as LAST is told), as bits; none, if fewer COME. ");
        b.town("person 1 0 0;person 2 0 0;person 3 0 0;person 4 0 0;person 5 0 0;person 6 0 0;person 7 0 0;duty 0 0;");
        b.illegal("club(0, 0)");
        b.is("club(0, 1)", 64);
        b.is("club(0, 2)", 96);
        b.is("club(0, 5)", 124);
        b.is("club(0, 6)", 126);
        b.illegal("club(0, 7)");
        b.go("ill(6, true)");
        b.is("club(0, 6)", 63);
        b.go("ill(0, true)");
        b.is("club(0, 5)", 62);
        b.is("club(0, 6)", Book.NONE);
        b.town("mule 60 0 0;cook 60 0 0;person 1 0 0;person 0 0 0;duty 0 0;");
        b.is("club(0, 1)", 4);
        b.is("club(0, 2)", 12);
        b.is("club(0, 3)", Book.NONE);
        // all COME in one minute: the nearest first
        b.town("person 0 0 2;person 2 0 1;person 4 0 0;person 2 0 1;duty 0 0;pace 2;");
        b.is("club(0, 1)", 4);
        b.is("club(0, 2)", 6);
        b.is("club(0, 3)", 14);
        b.is("club(0, 4)", 15);
        b.town("person 5 0 0;person 5 0 0;person 5 0 0;duty 0 0;");
        b.is("club(0, 1)", 1);
        b.is("club(0, 2)", 3);
        b.town("mule 0 0 0;duty 0 0;");
        b.is("club(0, 1)", Book.NONE);
    }

    private void rota() {
        b.says("A ROTA: each DUTY has a PERSON (no cook, no mule, not ILL), no two one PERSON, so that WAYS are least, all together: ");
        // the first DUTY's nearest one is better kept for the second
        b.town("person 0 0 5;person 0 0 0;duty 0 4;duty 0 9;pace 1;");
        b.is("rota(-1)", 8);
        b.is("rota(0)", 1);
        b.is("rota(1)", 0);
        b.town("cook 0 0 0;mule 0 0 0;person 0 0 0;person 9 0 0;person 8 0 0;duty 0 0;duty 0 0;");
        b.is("rota(-1)", 8);
        b.is("rota(0)", 2);
        b.is("rota(1)", 4);
        b.go("ill(2, true)");
        b.is("rota(-1)", 17);
        b.is("rota(0)", 3);
        b.is("rota(1)", 4);
        b.town("person 0 0 0;person 60 0 30;duty 0 0;duty 0 0;pace 9;");
        b.is("rota(-1)", 330);

        b.says("WAY is PACE by how far HOME is from the TOWER, and HABIT, less HASTE (not below 0): ");
        int[][] ways = {{12, 1}, {13, 0}, {14, 0}, {60, 0}};
        for (int[] w : ways) {
            b.town("person 7 " + w[0] + " 5;duty 0 3;pace 3;");
            b.give("rota(-1)", w[1]);
        }
        b.town("person 7 60 5;person 9 0 5;duty 0 5;duty 0 5;");
        b.is("rota(-1)", 9);

        b.says("how much; ");
        b.fresh();
        b.is("rota(-1)", 0);
        b.town("person 60 0 30;duty 0 0;pace 9;");
        b.is("rota(-1)", 330);
        b.town("person 60 0 30;".repeat(6) + "duty 0 0;".repeat(6) + "pace 9;");
        b.is("rota(-1)", 1980);

        b.says("who has the i-th: of like ones the first row (by DUTIES); ");
        b.is("rota(0)", 0);
        b.is("rota(5)", 5);
        b.noSuch("rota(6)");
        b.noSuch("rota(-2)");
        b.town("person 0 0 0;person 0 0 1;duty 0 2;duty 0 3;pace 1;");
        b.is("rota(-1)", 4);
        b.is("rota(0)", 0);
        b.is("rota(1)", 1);
        b.town("person 5 0 3;person 5 0 3;person 5 0 3;duty 0 3;duty 0 3;");
        b.is("rota(0)", 0);
        b.is("rota(1)", 1);
        b.town("person 0 0 1;person 0 0 1;person 0 0 0;duty 0 0;duty 0 1;duty 0 1;");
        b.is("rota(0)", 2);
        b.is("rota(1)", 0);
        b.is("rota(2)", 1);

        b.says("none, if there are too few.");
        b.town("person 0 0 0;".repeat(6) + "mule 0 0 0;cook 0 0 0;" + "duty 0 0;".repeat(6));
        b.is("rota(-1)", 0);
        b.go("ill(3, true)");
        b.is("rota(-1)", -2);
        b.is("rota(0)", -2);
        b.is("rota(5)", -2);
        b.noSuch("rota(6)");
        b.town("duty 0 0;");
        b.is("rota(-1)", -2);
        b.is("rota(0)", -2);
    }

    private void towers() {
        b.says("TOWERS: the fewest places (0 to 30) so that each HOME is so far (0 to 30) or less from one of them: ");
        b.town("person 0 0 0;mule 0 0 6;");
        b.illegal("towers(-1, 0)");
        b.is("towers(0, 0)", 2);
        b.is("towers(2, 0)", 2);
        b.is("towers(3, 0)", 1);
        b.is("towers(30, 0)", 1);
        b.illegal("towers(31, 0)");
        b.town("person 0 0 0;cook 0 0 30;");
        b.is("towers(14, 0)", 2);
        b.is("towers(15, 0)", 1);

        b.says("how many; ");
        b.fresh();
        b.is("towers(0, 0)", 0);
        b.is("towers(0, 1)", 0);
        b.town("person 0 0 1;person 0 0 1;person 0 0 4;");
        b.is("towers(0, 0)", 2);
        b.town("person 0 0 0;person 0 0 4;person 0 0 8;person 0 0 12;person 0 0 16;person 0 0 20;person 0 0 24;person 0 0 28;");
        b.is("towers(0, 0)", 8);
        b.is("towers(1, 0)", 8);
        b.is("towers(2, 0)", 4);

        b.says("the places, as bits: of like ones the least.");
        b.is("towers(1, 1)", 1 | 1 << 3 | 1 << 7 | 1 << 11 | 1 << 15 | 1 << 19 | 1 << 23 | 1 << 27);
        b.is("towers(2, 1)", 1 << 2 | 1 << 10 | 1 << 18 | 1 << 26);
        b.town("person 0 0 0;mule 0 0 6;");
        b.is("towers(0, 1)", 65);
        b.is("towers(2, 1)", 17);
        b.is("towers(3, 1)", 8);
        b.is("towers(4, 1)", 4);
        b.is("towers(30, 1)", 1);
        b.town("person 0 0 30;");
        b.is("towers(0, 1)", 1 << 30);
        b.is("towers(1, 1)", 1 << 29);
        b.is("towers(29, 1)", 2);
        b.is("towers(30, 1)", 1);
        b.town("person 0 0 0;cook 0 0 30;");
        b.is("towers(14, 1)", 1 + (1 << 16));
        b.is("towers(15, 1)", 1 << 15);
    }
}
