/** The edges of "==== 2.": how a DUTY has its turn, how a DAY goes by, which ACTS are kept and UNDONE. */
final class TurnEdges {
    static final String TOWN = "person 10 2 0;person 4 0 5;mule 9 0 3;cook 50 0 9;duty 100 0;duty 200 6;pace 2;";

    private final Book b;

    TurnEdges(Book b) {
        this.b = b;
    }

    void run() {
        b.part("==== 2", "==== 2. ", "==== 3. ");
        atFirst();
        ringing();
        rungOnceMore();
        comingThere();
        howLate();
        beingLast();
        mending();
        aDay();
        acts();
        undone();
    }

    private void atFirst() {
        b.says("The DAY is 0, nobody is THE RINGER, all are 0 LATE, have RUNG 0 times, nobody is ILL at first. ");
        b.town(TOWN);
        nothingYet();
        b.go("days(3)", "ill(0, true)", "ill(3, true)");
        b.tell(TOWN, 0);
        nothingYet();
    }

    private void nothingYet() {
        b.is("count(3)", 0);
        b.is("count(4)", Book.NONE);
        b.is("count(5)", 0);
        for (int p = 0; p < 4; p++) {
            b.give("person(" + p + ", 3)", 0);
            b.give("person(" + p + ", 4)", 0);
            b.give("person(" + p + ", 6)", 0);
        }
    }

    private void ringing() {
        b.says("A DUTY's turn: it RINGS at its DUE and, if there is a RINGER (ILL or not), so much later as RINGS gives for that one, ");
        b.town("person 5 0 0;person 3 0 0;duty 0 0;duty 999 0;rings 10+habit;");
        b.is("then(0, 1, 0)", 0);
        // 0 is LAST at the first one
        b.is("then(1, 1, 0)", 1014);
        b.go("appoint(1)");
        b.is("then(0, 1, 0)", 13);
        b.go("appoint(0)");
        b.is("then(0, 1, 0)", 15);
        b.go("ill(0, true)");
        b.is("then(0, 1, 0)", 15);
        b.is("later(0, 1, 1)", 1);
        b.is("late(0, 0)", Book.NONE);
        b.town("mule 5 0 0;cook 1 1 1;duty 40 0;duty 50 0;rings 7;");
        b.go("appoint(0)");
        b.is("then(0, 1, 0)", 47);
        b.is("then(1, 1, 0)", 50);
        b.town("duty 0 0;duty 999 0;rings 7;");
        b.is("then(0, 40, 0)", 0);
        b.is("then(1, 40, 0)", 999);

        b.says("kept to 0 to 120 ");
        int[][] kept = {{-2, 0}, {-1, 0}, {0, 0}, {1, 1}, {119, 119}, {120, 120}, {121, 120}, {8999, 120}};
        for (int[] k : kept) {
            b.town("person 5 0 0;duty 100 0;rings 1000+" + (k[0] + 1000) + "-2000;");
            b.go("appoint(0)");
            b.give("then(0, 1, 0)", 100 + k[1]);
        }

        b.says("(without it LATE by 2); ");
        // HOME and HABIT that make one so LATE with a PACE of 9
        int[][] late = {{0, 0, 0}, {0, 1, 0}, {0, 2, 1}, {0, 3, 1}, {0, 7, 3}, {26, 4, 119}, {26, 5, 119}, {26, 6, 120},
            {26, 7, 120}, {26, 8, 120}, {30, 60, 120}};
        for (int[] l : late) {
            b.town("person " + l[1] + " 0 " + l[0] + ";duty 100 0;duty 200 0;pace 9;");
            b.give("late(0, 0)", 9 * l[0] + l[1]);
            b.give("then(1, 1, 0)", 200 + l[2]);
        }
    }

    private void rungOnceMore() {
        b.says("that one has RUNG once more (999 at most). ");
        b.town("person 0 0 0;duty 1 0;");
        b.is("later(0, 1, 1)", 0);
        b.go("appoint(0)");
        b.is("later(0, 1, 1)", 1);
        b.is("later(0, 2, 1)", 2);
        for (int i = 0; i < 49; i++) {
            b.go("days(20)");
        }
        b.is("person(0, 4)", 980);
        b.is("later(0, 18, 1)", 998);
        b.is("later(0, 19, 1)", 999);
        b.is("later(0, 20, 1)", 999);
        b.go("days(19)");
        b.is("person(0, 4)", 999);
        b.is("later(0, 40, 1)", 999);
        // who RINGS at the end does so all the same
        b.is("first(0)", 1);
        b.is("idle(1)", 0);
        b.is("most(1)", 0);
        b.town("person 0 0 0;duty 1 0;duty 2 0;duty 3 0;duty 4 0;duty 5 0;duty 6 0;rings rung-900;");
        b.go("appoint(0)");
        for (int i = 0; i < 8; i++) {
            b.go("days(20)");
        }
        b.go("days(6)");
        b.is("person(0, 4)", 996);
        b.is("then(2, 1, 0)", 3 + 98);
        b.is("then(3, 1, 0)", 4 + 99);
        b.is("then(4, 1, 0)", 5 + 99);
        b.go("days(1)");
        b.is("person(0, 4)", 999);
    }

    private void comingThere() {
        b.says("Then each PERSON who is no cook, and isn't ILL, COMES: ");
        b.town("person 1 0 0;mule 0 0 0;cook 0 0 0;person 2 0 0;mule 0 0 0;duty 10 0;");
        b.is("coming(0, 3, 0)", 3);
        b.is("coming(0, 4, 0)", Book.NONE);
        b.is("late(2, 0)", Book.NONE);
        b.go("ill(3, true)", "ill(4, true)");
        b.is("coming(0, 0, 0)", 1);
        b.is("coming(0, 1, 0)", 0);
        b.is("coming(0, 2, 0)", Book.NONE);
        b.is("late(3, 0)", Book.NONE);
        b.is("late(4, 0)", Book.NONE);
        b.go("ill(3, false)");
        b.is("coming(0, 2, 0)", 3);
        b.is("late(3, 0)", 2);

        b.says("so many minutes behind that as PACE by how far HOME is from the TOWER, and HABIT, less HASTE ");
        b.town("person 7 3 5;duty 100 1;duty 300 9;pace 9;rings 50;mends 0;");
        b.is("coming(0, 0, 1)", 140);
        b.is("coming(1, 0, 1)", 390);
        b.town("person 0 0 30;person 60 0 0;duty 0 0;pace 9;");
        b.is("coming(0, 0, 1)", 60);
        b.is("coming(0, 1, 1)", 270);
        b.town("person 0 0 30;person 60 0 0;duty 0 30;pace 1;");
        b.is("coming(0, 0, 1)", 0);
        b.is("coming(0, 1, 1)", 90);

        b.says("(not ahead of when it RINGS); ");
        int[][] haste = {{6, 1}, {7, 0}, {8, 0}, {60, 0}};
        for (int[] h : haste) {
            b.town("person 7 " + h[0] + " 0;duty 100 0;rings 10;");
            b.give("coming(0, 0, 1)", 100 + h[1]);
            b.go("appoint(0)");
            b.give("coming(0, 0, 1)", 110 + h[1]);
        }

        b.says("a mule when it is DUE. ");
        b.town("mule 60 0 30;person 5 0 0;duty 100 0;rings 50;pace 9;");
        b.is("coming(0, 0, 0)", 0);
        b.is("coming(0, 0, 1)", 100);
        b.go("appoint(1)");
        b.is("coming(0, 0, 1)", 100);
        b.is("coming(0, 1, 1)", 155);
        b.is("late(0, 0)", 0);
        b.go("appoint(0)");
        b.is("coming(0, 0, 0)", 0);
        b.is("coming(0, 0, 1)", 100);
        b.is("coming(0, 1, 1)", 155);
    }

    private void howLate() {
        b.says("LATE of one who COMES is by how much one COMES behind DUE (0, if not; 999 at most). ");
        b.town("person 7 0 0;person 7 7 0;mule 9 0 9;duty 100 0;rings 10;");
        b.is("late(0, 0)", 7);
        b.is("late(1, 0)", 0);
        b.is("late(2, 0)", 0);
        b.go("appoint(0)", "days(1)");
        b.is("person(0, 3)", 17);
        b.is("person(1, 3)", 10);
        b.is("person(2, 3)", 0);
        // who doesn't COME is as LATE as ahead of that
        b.go("ill(0, true)", "days(1)");
        b.is("person(0, 3)", 17);
        b.is("person(1, 3)", 11);
        b.go("ill(0, false)", "hurry(0, 60)", "appoint(2)", "days(1)");
        b.is("person(0, 3)", 10);
        // no TOWN brings 999: 120, 30 by 9, and 60 are the most
        b.town("person 60 0 30;duty 999 0;pace 9;rings 120;mends 0;");
        b.go("appoint(0)");
        b.is("late(0, 0)", 450);
        b.is("coming(0, 0, 1)", 1449);
        b.go("days(1)");
        b.is("person(0, 3)", 450);
    }

    private void beingLast() {
        b.says("LAST is who COMES last, no mule (of like ones the one nearer to the TOWER, then the least): ");
        last("person 5 0 0;person 6 0 0;duty 0 0;", 1);
        last("person 5 0 0;person 5 0 0;duty 0 0;", 0);
        last("person 5 0 0;person 4 0 0;duty 0 0;", 0);
        last("person 0 0 2;person 4 0 0;duty 0 0;", 1);
        last("person 1 0 2;person 4 0 0;duty 0 0;", 0);
        last("person 0 0 2;person 2 0 1;duty 0 0;", 1);
        last("person 0 0 1;person 0 0 3;duty 0 2;", 0);
        last("person 0 0 0;person 0 0 3;person 2 0 1;duty 0 2;", 2);
        last("person 0 0 0;person 4 0 2;person 4 0 2;duty 0 2;", 1);
        last("mule 60 0 9;person 0 0 0;mule 60 0 0;duty 0 0;", 1);
        last("mule 60 0 9;cook 60 0 9;duty 0 0;", Book.NONE);

        b.says("that one is THE RINGER from then on (nobody, if there is none); ");
        b.town("person 5 0 0;person 6 0 0;mule 0 0 0;duty 0 0;");
        b.go("days(1)");
        b.is("count(4)", 1);
        b.go("ill(1, true)", "days(1)");
        b.is("count(4)", 0);
        b.go("ill(0, true)", "days(1)");
        b.is("count(4)", Book.NONE);
        b.go("appoint(2)", "days(1)");
        b.is("count(4)", Book.NONE);
        // without a DUTY's turn nothing is handed on
        b.town("person 5 0 0;");
        b.go("appoint(0)", "days(20)");
        b.is("count(4)", 0);
        b.is("person(0, 4)", 0);
    }

    private void last(String text, int want) {
        b.town(text);
        b.give("then(0, 1, 1)", want);
    }

    private void mending() {
        b.says("HASTE of it is more by what MENDS gives for it (LATE as it is now), ");
        b.town("person 5 0 0;person 4 9 0;duty 10 0;duty 20 0;rings 1;mends late;");
        b.go("appoint(1)");
        // at the first bell 0 is 6 LATE, has HASTE 6 then, is 1 LATE at the second one, as 1 is, and the least
        b.is("late(0, 0)", 6);
        b.is("late(0, 1)", 1);
        b.is("later(0, 1, 0)", 7);
        b.is("later(1, 1, 0)", 9);

        b.says("kept to 0 to 9 ");
        int[][] kept = {{-2, 0}, {-1, 0}, {0, 0}, {1, 1}, {8, 8}, {9, 9}, {10, 9}, {8999, 9}};
        for (int[] k : kept) {
            b.town("person 5 20 0;duty 100 0;mends 1000+" + (k[0] + 1000) + "-2000;");
            b.go("appoint(0)", "days(1)");
            b.give("person(0, 1)", 20 + k[1]);
        }

        b.says("(without it 1), ");
        b.town("person 5 20 0;duty 100 0;");
        b.go("appoint(0)", "days(1)");
        b.is("person(0, 1)", 21);

        b.says("to 60 at most.");
        int[][] nine = {{50, 59}, {51, 60}, {52, 60}, {60, 60}};
        for (int[] n : nine) {
            b.town("person 60 " + n[0] + " 0;duty 0 0;mends 9;");
            b.go("appoint(0)", "days(1)");
            b.give("person(0, 1)", n[1]);
        }
        int[][] one = {{58, 59}, {59, 60}, {60, 60}};
        for (int[] o : one) {
            b.town("person 60 " + o[0] + " 0;duty 0 0;");
            b.go("appoint(0)", "days(1)");
            b.give("person(0, 1)", o[1]);
        }
    }

    private void aDay() {
        b.says("A DAY: DUTY by DUTY each has its turn; ");
        b.town(TOWN);
        b.is("then(0, 1, 1)", 1);
        b.is("then(1, 1, 0)", 207);
        b.is("then(1, 1, 1)", 0);
        b.is("then(0, 2, 0)", 113);
        b.is("then(0, 2, 1)", 1);
        b.is("then(1, 2, 0)", 213);
        // an earlier minute doesn't change the row
        b.town("person 10 0 0;duty 500 0;duty 100 0;");
        b.is("then(0, 1, 0)", 500);
        b.is("then(1, 1, 0)", 105);

        b.says("then each who didn't RING on that DAY has HASTE 1 less (not below 0). ");
        b.town("cook 0 0 0;cook 0 1 0;cook 0 2 0;mule 0 5 0;person 9 7 0;person 9 8 0;person 9 60 0;duty 0 0;mends 0;");
        b.go("appoint(4)", "ill(6, true)", "days(1)");
        int[] haste = {0, 0, 1, 4, 7, 7, 59};
        for (int p = 0; p < haste.length; p++) {
            b.give("person(" + p + ", 1)", haste[p]);
        }
        // who is LAST at the last bell of a DAY RINGS only on the next one
        b.town("person 9 5 0;duty 0 0;mends 3;");
        b.go("days(1)");
        b.is("person(0, 1)", 7);
        b.go("days(1)");
        b.is("person(0, 1)", 10);
        b.go("ill(0, true)", "days(1)");
        b.is("person(0, 1)", 10);
        b.go("days(1)");
        b.is("person(0, 1)", 9);
        b.town("cook 0 1 0;person 0 2 0;");
        b.go("days(1)");
        b.is("person(0, 1)", 0);
        b.is("person(1, 1)", 1);

        b.says("The DAY is one more then.");
        b.town("person 0 0 0;duty 10 0;rings day;");
        b.go("appoint(0)");
        b.is("then(0, 1, 0)", 10);
        b.is("then(0, 2, 0)", 11);
        b.go("days(1)");
        b.is("count(3)", 1);
        b.go("days(2)");
        b.is("count(3)", 3);
        b.is("then(0, 1, 0)", 13);
    }

    private void acts() {
        b.says("ACTS (at most 40 are kept, the latest ones): ");
        b.town(TOWN);
        for (int i = 1; i <= 39; i++) {
            b.go("hurry(0, " + i + ")");
        }
        b.is("count(7)", 39);
        b.go("hurry(0, 40)");
        b.is("count(7)", 40);
        b.go("hurry(0, 41)");
        b.is("count(7)", 40);
        b.go("hurry(0, 42)");
        b.is("count(7)", 40);
        for (int i = 39; i >= 0; i--) {
            b.give("undo()", i);
            b.give("person(0, 1)", i + 2);
        }
        b.isIdle("undo()", Book.NONE);
        b.is("person(0, 1)", 2);

        b.says("DAYS go by (1 to 20); ");
        b.town(TOWN);
        b.isRefused("days(0)", Book.NONE, Book.OF_ACTS);
        b.is("days(1)", 1);
        b.is("days(20)", 21);
        b.isRefused("days(21)", Book.NONE, Book.OF_ACTS);
        b.is("count(7)", 2);

        b.says("HASTE of one becomes another (0 to 60); ");
        b.town(TOWN);
        b.isRefused("hurry(0, -1)", Book.NONE, Book.OF_ACTS);
        b.is("hurry(0, 0)", 2);
        b.is("hurry(0, 60)", 0);
        b.isRefused("hurry(0, 61)", Book.NONE, Book.OF_ACTS);
        b.is("person(0, 1)", 60);
        b.is("count(7)", 2);

        b.says("one falls ILL, or is well; ");
        b.town(TOWN);
        b.isRefused("ill(0, false)", 0, Book.OF_ACTS);
        b.is("ill(0, true)", 1);
        b.is("person(0, 6)", 1);
        b.isRefused("ill(0, true)", 0, Book.OF_ACTS);
        b.is("ill(0, false)", 1);
        b.is("person(0, 6)", 0);
        b.is("count(7)", 2);

        b.says("another one is APPOINTED THE RINGER; ");
        b.town(TOWN);
        b.is("appoint(0)", Book.NONE);
        b.is("count(4)", 0);
        b.isRefused("appoint(0)", -2, Book.OF_ACTS);
        b.is("appoint(1)", 0);
        b.is("count(7)", 2);

        b.says("DUE of a DUTY becomes another (0 to 999). ");
        b.town(TOWN);
        b.isRefused("due(0, -1)", Book.NONE, Book.OF_ACTS);
        b.is("due(0, 0)", 100);
        b.is("due(0, 999)", 0);
        b.isRefused("due(0, 1000)", Book.NONE, Book.OF_ACTS);
        b.is("duty(0, 0)", 999);
        b.is("count(7)", 2);
    }

    private void undone() {
        b.says("They are UNDONE, the last one first.");
        b.town(TOWN);
        b.go("hurry(0, 9)", "days(3)", "ill(0, true)", "appoint(1)", "due(0, 7)", "ill(0, false)");
        b.is("undo()", 5);
        b.is("count(5)", 1);
        b.is("undo()", 4);
        b.is("duty(0, 0)", 100);
        b.is("count(4)", 1);
        b.is("undo()", 3);
        b.is("count(4)", 0);
        b.is("undo()", 2);
        b.is("count(5)", 0);
        b.is("count(3)", 3);
        b.is("undo()", 1);
        b.is("count(3)", 0);
        b.is("count(4)", Book.NONE);
        b.is("person(0, 3)", 0);
        b.is("person(1, 4)", 0);
        b.is("person(0, 1)", 9);
        b.is("undo()", 0);
        b.is("person(0, 1)", 2);
        b.isIdle("undo()", Book.NONE);
    }
}
