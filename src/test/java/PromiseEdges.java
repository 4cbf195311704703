/** The edges of "Promise 1" to "Promise 48", and of how many calls an object may be given. */
final class PromiseEdges {
    /** 0 and 1 COME, a mule, a cook; 1 is LAST at the first bell (by 14), then 0 (by 27). */
    private static final String TOWN = TurnEdges.TOWN;
    private static final int[] FAR_OUT = {Integer.MIN_VALUE, Integer.MIN_VALUE + 1, -1000, 1000000, Integer.MAX_VALUE};
    /** Each call that asks for a PERSON: %d is that one, and what stands behind it is refused, too, if that can be. */
    private static final String[] OF_PERSONS = {"person(%d, 7)", "person(%d, 0)", "hurry(%d, 61)", "hurry(%d, 5)",
        "ill(%d, true)", "ill(%d, false)", "appoint(%d)", "later(%d, 41, 2)", "later(%d, 41, 0)", "later(%d, 1, 0)",
        "first(%d)", "delay(%d, 0)", "delay(%d, 9)", "snow(%d, 0, 11)", "snow(%d, 1, 5)", "game(%d, 0, 0)", "game(0, %d, 0)",
        "game(%d, %d, 0)", "game(%d, %d, 5)", "ahead(%d, 0)", "ahead(%d, 9)", "nearest(%d)", "neighbours(%d, 31)",
        "neighbours(%d, 3)", "toMend(%d, 0)", "toMend(%d, 3)", "loses(%d)", "late(%d, 0)", "late(%d, 9)", "walk(%d)"};
    /** Each call that asks for a DUTY. */
    private static final String[] OF_DUTIES = {"duty(%d, 3)", "duty(%d, 0)", "due(%d, 1000)", "due(%d, 5)", "then(%d, 41, 2)",
        "then(%d, 41, 0)", "then(%d, 1, 0)", "delay(0, %d)", "club(%d, 7)", "club(%d, 1)", "see(%d, 0, 2000)", "see(%d, 1, 5)",
        "coming(%d, -1, 2)", "coming(%d, 0, 0)", "spread(%d)", "ahead(0, %d)", "soonest(%d, 121)", "soonest(%d, 5)",
        "late(0, %d)", "prompt(%d)"};

    /** Each question, about PEOPLE and DUTIES that are in every TOWN here. */
    private static final String[] QUESTIONS = {"count(5)", "count(6)", "person(1, 3)", "duty(1, 2)", "then(1, 7, 0)", "then(1, 7, 1)",
        "later(1, 7, 0)", "later(0, 7, 1)", "first(1)", "worst(7)", "idle(7)", "round(0)", "round(1)", "delay(0, 1)", "delay(1, 0)",
        "club(1, 2)", "club(0, 3)", "rota(-1)", "rota(0)", "rota(1)", "towers(1, 0)", "towers(1, 1)", "habits(0)", "habits(1)",
        "habits(2)", "next(0)", "next(1)", "snow(1, 3, 4)", "snow(0, 5, 10)", "game(0, 1, 0)", "game(1, 0, 1)", "years(5, 9, 0)",
        "years(5, 9, 1)", "years(5, 9, 2)", "coming(1, 0, 0)", "coming(1, 1, 1)", "coming(0, 2, 0)", "spread(1)", "ahead(1, 1)",
        "nearest(1)", "neighbours(0, 4)", "toMend(1, 5)", "silent(2)", "behind(7)", "most(7)", "soonest(1, 5)", "handed(7)",
        "loses(1)", "late(1, 1)", "prompt(1)", "walk(1)", "twins()"};

    private final Book b;

    PromiseEdges(Book b) {
        this.b = b;
    }

    void run() {
        b.part("What it is", "years by a seed. ==== 1.\n", "## The public face");
        calls();
        newObject();
        feed();
        town();
        fault();
        count();
        person();
        duty();
        days();
        hurryAndIll();
        appointAndDue();
        undo();
        thenAndLater();
        ahead();
        choices();
        towers();
        heard();
        chances();
        nextDay();
        homes();
        manyDays();
        bells();
        ways();
        images();
    }

    /** The call with numbers far out of what is fine, and next to it: each is thrown; the least and the most are not. */
    private void between(String call, int least, int most) {
        b.illegal(String.format(call, least - 1));
        b.illegal(String.format(call, most + 1));
        for (int number : FAR_OUT) {
            b.illegal(String.format(call, number));
        }
        b.go(String.format(call, least), String.format(call, most));
    }

    private void noOther(String call, int most) {
        b.noSuch(String.format(call, -1));
        b.noSuch(String.format(call, most + 1));
        for (int number : FAR_OUT) {
            b.noSuch(String.format(call, number));
        }
        for (int what = 0; what <= most; what++) {
            b.go(String.format(call, what));
        }
    }

    private void calls() {
        b.says("An object is used for at most 512 calls after it has been made; what later calls answer is free.");
        b.town(TOWN);
        // four feeds and town were the first five
        for (int i = 5; i < 509; i++) {
            b.give("hurry(1, " + (i + 1) % 61 + ")", i == 5 ? 0 : i % 61);
        }
        b.give("undo()", 39);
        b.give("person(1, 1)", 508 % 61);
        b.give("days(1)", 1);
    }

    private void newObject() {
        b.promise(1, "A new object");
        b.says("Nobody, no DUTIES.");
        b.fresh();
        int[] counts = {0, 0, 2, 0, Book.NONE, 0, 0, 0, 0, 0, 0, 0, 0};
        for (int what = 0; what < counts.length; what++) {
            b.is("count(" + what + ")", counts[what]);
        }
        b.is("fault()", Book.NONE);
        b.isIdle("undo()", Book.NONE);
        b.isIdle("restore()", 0);
        for (String call : OF_PERSONS) {
            b.noSuch(call.replace("%d", "0"));
        }
        b.fresh();
        for (String call : OF_DUTIES) {
            b.noSuch(call.replace("%d", "0"));
        }
        b.is("days(1)", 1);
        b.is("count(3)", 1);
    }

    private void feed() {
        b.promise(2, "feed");
        b.says("Twenty bytes come behind the tape, of each number the highest first: ");
        b.fresh();
        // "person 1 2 3;mule 4 ", then "5 6;pace 7;cook 8 9 "
        b.give("feed(1885696627, 1869488177, 540155955, 997029228, 1696609312)", 20);
        b.give("feed(891303483, 1885430629, 540490595, 1869572896, 941635872)", 40);
        b.give("town(37)", 1);
        b.give("fault()", 37);
        b.give("feed(1885696627, 1869488177, 540155955, 997029228, 1696609312)", 20);
        b.give("feed(891303483, 1885430629, 540490595, 1869572896, 941635872)", 40);
        b.give("town(31)", 0);
        b.give("person(0, 0)", 1);
        b.give("person(0, 1)", 2);
        b.give("person(0, 2)", 3);
        b.give("person(1, 0)", 4);
        b.give("person(1, 1)", 5);
        b.give("person(1, 2)", 6);
        b.give("count(2)", 7);
        // each of the four bytes of each number, the highest of which may make it negative
        for (int i = 0; i < 20; i++) {
            int[] five = {0x20202020, 0x20202020, 0x20202020, 0x20202020, 0x20202020};
            five[i / 4] ^= (0x20 ^ 0xff) << 24 - 8 * (i % 4);
            b.fresh();
            b.go("feed(" + five[0] + ", " + five[1] + ", " + five[2] + ", " + five[3] + ", " + five[4] + ")");
            b.give("town(20)", 1);
            b.give("fault()", i);
        }

        b.says("how many it has; ");
        b.fresh();
        for (int i = 1; i <= 34; i++) {
            b.give("feed(538976288, 538976288, 538976288, 538976288, 538976288)", 20 * i);
        }
        b.is("count(9)", 680);
        b.says("NONE, and none come, if it would have more than 700.");
        b.is("feed(538976288, 538976288, 538976288, 538976288, 538976266)", 700);
        b.isIdle("feed(538976288, 538976288, 538976288, 538976288, 538976288)", Book.NONE);
        b.isIdle("feed(1061109567, 1061109567, 1061109567, 1061109567, 1061109567)", Book.NONE);
        b.is("count(9)", 700);
        b.is("count(10)", 0);
        b.give("town(700)", 0);
        b.give("feed(1061109567, 0, 0, 0, 0)", 20);
    }

    private void town() {
        b.promise(3, "town");
        b.says("The tape's first n bytes (it is empty then) are a TOWN, all anew: 0, ");
        b.fresh();
        b.feed("duty 1 2;person 1 2 3;pace 0;");
        b.is("count(9)", 40);
        b.is("town(22)", 0);
        b.is("count(9)", 0);
        b.is("count(0)", 1);
        b.is("count(1)", 1);
        b.is("count(2)", 2);
        b.illegal("town(1)");
        b.is("town(0)", 0);
        b.is("count(0)", 0);
        b.town("person 1 2 3;person 2 3 4;duty 1 2;duty 3 4;pace 9;rings 9;mends 9;");
        b.go("days(2)", "ill(0, true)", "due(0, 9)");
        b.tell("person 5 0 0;duty 10 0;duty 20 0;", 0);
        b.is("count(0)", 1);
        b.is("count(2)", 2);
        b.is("count(3)", 0);
        b.is("count(4)", Book.NONE);
        b.is("count(5)", 0);
        b.is("person(0, 1)", 0);
        b.is("person(0, 3)", 0);
        b.is("duty(0, 0)", 10);
        // the rules are gone, too
        b.is("then(1, 1, 0)", 22);
        b.is("later(0, 1, 0)", 2);

        anew();

        b.says("or the FAULT (all stays). ");
        for (String text : new String[] {"?", "person 1 2 3;pace 0;", "rings 1;mends foo;", "pace 1;pace 1;"}) {
            b.town("person 5 0 0;duty 10 0;duty 20 0;pace 3;rings 7;mends 3;");
            b.go("days(2)", "hurry(0, 9)", "see(0, 1, 5)", "image()", "days(1)");
            b.feed(text);
            String stays = "town(" + text.length() + ")";
            int want = text.startsWith("?") ? 1 : text.startsWith("person") ? 2 : text.startsWith("rings") ? 3 : 5;
            b.give(stays, want);
            b.is("count(9)", 0);
            b.is("count(10)", 1);
            b.is("count(0)", 1);
            b.is("count(2)", 3);
            b.is("count(3)", 3);
            b.is("count(7)", 3);
            b.is("count(8)", 1);
            // HASTE 9 mends by 3 at each of two bells
            b.is("person(0, 1)", 15);
            b.is("then(0, 1, 0)", 17);
            b.is("undo()", 2);
            b.is("person(0, 1)", 9);
            b.is("restore()", 1);
        }

        b.says("ACTS, what is SEEN, the image are gone (STATUS stays). ");
        b.town(TOWN);
        b.go("days(1)", "see(0, 1, 5)", "image()", "days(0)", "see(0, 0, 0)");
        b.tell("?", 1);
        b.tell(TOWN, 0);
        b.is("count(7)", 0);
        b.isIdle("undo()", Book.NONE);
        b.is("count(8)", 0);
        b.is("habits(2)", 1);
        b.isIdle("restore()", 0);
        b.is("count(10)", 1);
        b.is("count(11)", 1);
        b.is("count(12)", 1);

        b.says("IllegalArgumentException: the tape has not so many, n below 0 (nothing changes).");
        b.fresh();
        b.is("town(0)", 0);
        b.illegal("town(1)");
        b.illegal("town(-1)");
        b.town(TOWN);
        b.go("days(1)", "see(0, 1, 5)", "image()");
        b.tell("?", 1);
        b.feed("person 1 2 3;pace 4;");
        b.illegal("town(21)");
        b.illegal("town(-1)");
        for (int n : FAR_OUT) {
            b.illegal("town(" + n + ")");
        }
        b.is("count(9)", 20);
        b.is("fault()", 0);
        b.is("town(20)", 0);
        b.is("count(2)", 4);
    }

    /** The largest TOWN with all questions, then a small one: nothing is left. */
    private void anew() {
        String small = "person 5 0 0;person 3 0 4;duty 100 0;duty 200 2;rings late;";
        for (String call : QUESTIONS) {
            b.town(TextEdges.FULL);
            b.go("days(3)", "image()", "see(5, 1, 568)");
            b.go(QUESTIONS);
            b.tell(small, 0);
            b.isAsNew(call, small);
        }
        b.town(TextEdges.FULL);
        b.go("ill(7, true)", "appoint(6)", "days(20)");
        b.tell(small, 0);
        b.go(QUESTIONS);
        for (String call : QUESTIONS) {
            b.isAsNew(call, small);
        }
    }

    private void fault() {
        b.promise(4, "fault");
        b.says("The place of the latest town()'s FAULT; ");
        b.fresh();
        b.tell("person 1 2 x;", 1);
        b.is("fault()", 11);
        b.is("fault()", 11);
        b.tell("?", 1);
        b.is("fault()", 0);
        b.tell(" ".repeat(20) + "pace 0;", 2);
        b.is("fault()", 25);
        b.illegal("town(1)");
        b.is("fault()", 25);
        b.says("NONE without.");
        b.is("town(0)", 0);
        b.is("fault()", Book.NONE);
        b.tell(TOWN, 0);
        b.is("fault()", Book.NONE);
        b.illegal("town(1)");
        b.is("fault()", Book.NONE);
        b.fresh();
        b.is("fault()", Book.NONE);
    }

    private void count() {
        b.promise(5, "count");
        b.says("0 PEOPLE, 1 DUTIES, 2 PACE, 3 the DAY, 4 THE RINGER (NONE), 5 who is ILL (bits), 6 HASTE of all, "
            + "7 ACTS that are kept, 8 SEEN, 9 bytes of the tape, 10 to 12 STATUS 0 to 2. ");
        b.town(TOWN);
        counts(4, 2, 2, 0, Book.NONE, 0, 2, 0, 0, 0, 0, 0, 0);
        b.go("days(1)", "ill(1, true)", "ill(3, true)", "see(0, 1, 100)", "days(0)", "days(0)", "see(0, 0, 0)", "see(0, 0, 0)",
            "see(0, 0, 0)");
        b.tell("?", 1);
        b.feed("person 1 2 3;");
        counts(4, 2, 2, 1, 0, 10, 3, 3, 1, 20, 1, 2, 3);
        b.town("person 0 60 0;".repeat(8) + "duty 0 0;".repeat(6) + "pace 9;");
        for (int p = 0; p < 8; p++) {
            b.go("ill(" + p + ", true)");
        }
        counts(8, 6, 9, 0, Book.NONE, 255, 480, 8, 0, 0, 0, 0, 0);
        b.go("ill(7, false)");
        b.is("count(5)", 127);
        b.is("appoint(7)", Book.NONE);
        b.is("count(4)", 7);

        b.says("NoSuchElementException: another what.");
        noOther("count(%d)", 12);
    }

    private void counts(int... want) {
        for (int what = 0; what < want.length; what++) {
            b.give("count(" + what + ")", want[what]);
        }
    }

    private void person() {
        b.promise(6, "person");
        b.says("Of a PERSON: 0 HABIT, 1 HASTE, 2 HOME, 3 how LATE, 4 how often one has RUNG, 5 0 a person, 1 a mule, 2 a cook, 6 whether ILL (1). ");
        b.town(TOWN);
        b.go("days(1)", "ill(0, true)", "ill(3, true)");
        int[][] want = {{10, 2, 0, 27, 0, 0, 1}, {4, 1, 5, 12, 1, 0, 0}, {9, 0, 3, 0, 0, 1, 0}, {50, 0, 9, 0, 0, 2, 1}};
        for (int p = 0; p < 4; p++) {
            for (int what = 0; what < 7; what++) {
                b.give("person(" + p + ", " + what + ")", want[p][what]);
            }
        }
        b.go("ill(0, false)");
        b.is("person(0, 6)", 0);

        b.says("NoSuchElementException: no such PERSON (as everywhere), ");
        for (String call : OF_PERSONS) {
            nobodySuch(call, TOWN, 4);
            nobodySuch(call, "person 1 2 3;".repeat(8) + "duty 0 0;", 8);
        }
        b.says("what.");
        b.town(TOWN);
        noOther("person(0, %d)", 6);
        b.noSuch("person(3, 7)");
        b.noSuch("person(4, 7)");
    }

    private void nobodySuch(String call, String text, int many) {
        b.town(text);
        b.noSuch(call.replace("%d", "-1"));
        b.noSuch(call.replace("%d", String.valueOf(many)));
        b.noSuch(call.replace("%d", String.valueOf(Integer.MIN_VALUE)));
        b.noSuch(call.replace("%d", String.valueOf(Integer.MAX_VALUE)));
    }

    private void duty() {
        b.promise(7, "duty");
        b.says("Of a DUTY: 0 DUE, 1 where the TOWER is, 2 who is SLOWEST (NONE). ");
        b.town(TOWN);
        b.is("duty(0, 0)", 100);
        b.is("duty(0, 1)", 0);
        b.is("duty(0, 2)", 1);
        b.is("duty(1, 0)", 200);
        b.is("duty(1, 1)", 6);
        b.is("duty(1, 2)", 0);
        b.town("mule 1 1 1;cook 1 1 1;duty 999 30;");
        b.is("duty(0, 0)", 999);
        b.is("duty(0, 1)", 30);
        b.is("duty(0, 2)", Book.NONE);

        b.says("NoSuchElementException: no such DUTY (as everywhere), ");
        for (String call : OF_DUTIES) {
            nobodySuch(call, TOWN, 2);
            nobodySuch(call, "person 1 2 3;" + "duty 0 0;".repeat(6), 6);
        }
        b.says("what.");
        b.town(TOWN);
        noOther("duty(0, %d)", 2);
        b.noSuch("duty(1, 3)");
        b.noSuch("duty(2, 3)");
    }

    private void days() {
        b.promise(8, "days");
        b.says("DAYS go by: the DAY. ");
        b.town(TOWN);
        b.is("days(1)", 1);
        b.is("person(1, 4)", 1);
        b.is("days(2)", 3);
        b.is("count(3)", 3);
        b.is("count(7)", 2);
        b.fresh();
        b.is("days(20)", 20);

        b.says("NONE (STATUS 1): not 1 to 20, ");
        b.town(TOWN);
        for (int many : new int[] {Integer.MIN_VALUE, -1, 0, 21, 22, Integer.MAX_VALUE}) {
            b.isRefused("days(" + many + ")", Book.NONE, Book.OF_ACTS);
        }
        b.is("count(11)", 6);
        b.is("days(1)", 1);
        b.is("days(20)", 21);
        b.is("count(11)", 6);

        b.says("it would be above 999.");
        b.town("person 1 1 1;duty 0 0;");
        for (int i = 0; i < 49; i++) {
            b.go("days(20)");
        }
        b.isRefused("days(20)", Book.NONE, Book.OF_ACTS);
        b.is("days(18)", 998);
        b.isRefused("days(2)", Book.NONE, Book.OF_ACTS);
        b.is("days(1)", 999);
        b.isRefused("days(1)", Book.NONE, Book.OF_ACTS);
        b.is("count(11)", 3);
        b.is("undo()", 39);
        b.is("count(3)", 998);
        b.is("undo()", 38);
        b.is("count(3)", 980);
        b.is("days(19)", 999);
        // what comes is asked for beyond that all the same
        b.is("then(0, 40, 0)", 0);
        b.is("later(0, 40, 1)", 999);
    }

    private void hurryAndIll() {
        b.promise(9, "hurry");
        b.says("HASTE as it was. ");
        b.town(TOWN);
        b.is("hurry(0, 60)", 2);
        b.is("hurry(0, 0)", 60);
        b.is("hurry(0, 0)", 0);
        b.is("hurry(3, 7)", 0);
        b.is("person(3, 1)", 7);
        b.is("count(7)", 4);
        b.says("NONE (STATUS 1): not 0 to 60.");
        for (int haste : new int[] {Integer.MIN_VALUE, -1, 61, Integer.MAX_VALUE}) {
            b.isRefused("hurry(3, " + haste + ")", Book.NONE, Book.OF_ACTS);
        }
        b.is("count(11)", 4);
        b.is("hurry(3, 0)", 7);
        b.is("hurry(3, 60)", 0);

        b.promise(10, "ill");
        b.says("ILL, or well: true. ");
        b.town(TOWN);
        for (int p = 0; p < 4; p++) {
            b.is("ill(" + p + ", true)", 1);
            b.is("count(5)", (2 << p) - 1);
        }
        b.is("ill(1, false)", 1);
        b.is("count(5)", 13);
        b.says("False (STATUS 1): it is so already.");
        b.isRefused("ill(1, false)", 0, Book.OF_ACTS);
        b.isRefused("ill(0, true)", 0, Book.OF_ACTS);
        b.is("count(11)", 2);
        b.is("count(7)", 5);
    }

    private void appointAndDue() {
        b.promise(11, "appoint");
        b.says("APPOINTED: who was THE RINGER (NONE). ");
        b.town(TOWN);
        b.is("appoint(0)", Book.NONE);
        b.is("count(4)", 0);
        b.is("appoint(1)", 0);
        b.is("appoint(2)", 1);
        b.is("count(4)", 2);
        b.is("appoint(0)", 2);
        b.go("ill(0, true)");
        b.is("appoint(1)", 0);
        b.says("-2 (STATUS 1): that one is, ");
        b.isRefused("appoint(1)", -2, Book.OF_ACTS);
        b.says("a cook, ");
        b.isRefused("appoint(3)", -2, Book.OF_ACTS);
        b.says("ILL.");
        b.isRefused("appoint(0)", -2, Book.OF_ACTS);
        b.go("ill(2, true)");
        b.isRefused("appoint(2)", -2, Book.OF_ACTS);
        b.go("ill(3, true)");
        b.isRefused("appoint(3)", -2, Book.OF_ACTS);
        b.go("ill(1, true)");
        b.isRefused("appoint(1)", -2, Book.OF_ACTS);
        b.is("count(11)", 6);
        b.go("ill(0, false)");
        b.is("appoint(0)", 1);

        b.promise(12, "due");
        b.says("DUE as it was. ");
        b.town(TOWN);
        b.is("due(1, 0)", 200);
        b.is("due(1, 999)", 0);
        b.is("due(1, 999)", 999);
        b.is("duty(1, 0)", 999);
        b.is("duty(0, 0)", 100);
        b.is("count(7)", 3);
        b.says("NONE (STATUS 1): not 0 to 999.");
        for (int minute : new int[] {Integer.MIN_VALUE, -1, 1000, Integer.MAX_VALUE}) {
            b.isRefused("due(1, " + minute + ")", Book.NONE, Book.OF_ACTS);
        }
        b.is("count(11)", 4);
        b.is("duty(1, 0)", 999);
    }

    private void undo() {
        b.promise(13, "undo");
        b.says("The last ACT is UNDONE: how many are left. ");
        b.town(TOWN);
        b.go("hurry(0, 5)", "days(0)", "due(0, 1000)", "hurry(0, 6)", "see(0, 1, 1)");
        b.is("undo()", 1);
        b.is("person(0, 1)", 5);
        b.is("count(8)", 1);
        b.is("count(11)", 2);
        b.is("undo()", 0);
        b.is("person(0, 1)", 2);
        b.says("NONE: there is none.");
        b.isIdle("undo()", Book.NONE);
        b.is("count(11)", 2);
        b.fresh();
        b.isIdle("undo()", Book.NONE);
        b.go("days(1)");
        b.is("undo()", 0);
        b.isIdle("undo()", Book.NONE);
    }

    private void thenAndLater() {
        b.promise(14, "then");
        b.says("THEN: when it RINGS (what 0), who is LAST (1; NONE). ");
        b.town(TOWN);
        b.is("then(1, 1, 0)", 207);
        b.is("then(1, 1, 1)", 0);
        b.go("ill(0, true)", "ill(1, true)");
        b.is("then(1, 1, 0)", 200);
        b.is("then(1, 1, 1)", Book.NONE);
        b.says("NoSuchElementException: also another what. ");
        noOther("then(0, 1, %d)", 1);
        b.says("IllegalArgumentException (behind that): not 1 to 40.");
        b.town(TOWN);
        between("then(0, %d, 0)", 1, 40);
        between("then(1, %d, 1)", 1, 40);
        b.noSuch("then(0, 41, 2)");
        b.noSuch("then(0, 0, -1)");
        b.noSuch("then(2, 0, 0)");

        b.promise(15, "later");
        b.says("HASTE (what 0), RUNG (1) then. ");
        b.town(TOWN);
        b.is("later(1, 2, 0)", 2);
        b.is("later(1, 2, 1)", 2);
        b.is("later(0, 2, 0)", 3);
        b.is("later(0, 2, 1)", 1);
        b.says("NoSuchElementException: also another what. ");
        noOther("later(0, 1, %d)", 1);
        b.says("IllegalArgumentException (behind that): not 0 to 40.");
        b.town(TOWN);
        between("later(0, %d, 0)", 0, 40);
        between("later(3, %d, 1)", 0, 40);
        b.noSuch("later(0, 41, 2)");
        b.noSuch("later(0, -1, -1)");
        b.noSuch("later(4, -1, 0)");
    }

    private void ahead() {
        b.promise(16, "first");
        b.says("FIRST; ");
        b.town(TOWN);
        b.is("first(1)", 1);
        b.is("first(0)", 2);
        b.says("NONE: none.");
        b.is("first(2)", Book.NONE);
        b.is("first(3)", Book.NONE);

        b.promise(17, "worst");
        b.says("WORST; ");
        b.is("worst(1)", 1);
        b.is("worst(2)", 0);
        b.says("NONE: no DUTIES. ");
        b.town("person 1 1 1;");
        b.is("worst(1)", Book.NONE);
        b.is("worst(40)", Book.NONE);
        b.says("IllegalArgumentException: not 1 to 40.");
        between("worst(%d)", 1, 40);
        b.fresh();
        between("worst(%d)", 1, 40);

        b.promise(18, "idle");
        b.says("IDLE, as bits. ");
        b.town(TOWN);
        b.is("idle(0)", 15);
        b.is("idle(1)", 13);
        b.is("idle(2)", 12);
        b.says("IllegalArgumentException: not 0 to 40.");
        between("idle(%d)", 0, 40);
        b.fresh();
        between("idle(%d)", 0, 40);

        b.promise(19, "round");
        b.says("ROUND: behind how many (what 0), as behind how many (1); ");
        b.town("cook 0 5 0;");
        b.is("round(0)", 6);
        b.is("round(1)", 5);
        b.fresh();
        b.is("round(0)", 1);
        b.is("round(1)", 0);
        b.says("NONE: none. ");
        b.town("cook 0 40 0;");
        b.is("round(0)", Book.NONE);
        b.is("round(1)", Book.NONE);
        b.says("NoSuchElementException: another what.");
        noOther("round(%d)", 1);
        b.fresh();
        noOther("round(%d)", 1);
    }

    private void choices() {
        b.promise(20, "delay");
        b.says("TO DELAY; ");
        b.town(TOWN);
        b.is("delay(0, 0)", 6);
        b.is("delay(1, 0)", 0);
        b.says("NONE: none, ");
        b.town("person 0 0 0;person 10 0 10;duty 0 0;pace 9;");
        b.is("delay(0, 0)", Book.NONE);
        b.says("a mule, ");
        b.town(TOWN);
        b.is("delay(2, 0)", Book.NONE);
        b.town("mule 0 0 0;duty 0 0;");
        b.is("delay(0, 0)", Book.NONE);
        b.says("one who doesn't COME.");
        b.town(TOWN);
        b.is("delay(3, 1)", Book.NONE);
        b.go("ill(0, true)");
        b.is("delay(0, 1)", Book.NONE);
        b.is("delay(1, 1)", 0);

        b.promise(21, "club");
        b.says("A CLUB, as bits; ");
        b.town(TOWN);
        b.is("club(0, 1)", 2);
        b.is("club(0, 2)", 3);
        b.is("club(1, 1)", 1);
        b.says("NONE: fewer COME. ");
        b.is("club(0, 3)", Book.NONE);
        b.is("club(0, 6)", Book.NONE);
        b.says("IllegalArgumentException (behind NoSuchElementException): not 1 to 6.");
        between("club(0, %d)", 1, 6);
        b.noSuch("club(2, 0)");
        b.noSuch("club(2, 7)");
        b.noSuch("club(-1, 7)");

        b.promise(22, "rota");
        b.says("A ROTA: how much (i NONE), who has the i-th DUTY; ");
        b.town(TOWN);
        b.is("rota(-1)", 14);
        b.is("rota(0)", 0);
        b.is("rota(1)", 1);
        b.says("-2: there are too few. ");
        b.go("ill(1, true)");
        b.is("rota(-1)", -2);
        b.is("rota(0)", -2);
        b.is("rota(1)", -2);
        b.says("NoSuchElementException: no such DUTY.");
        b.noSuch("rota(2)");
        b.noSuch("rota(-2)");
        b.noSuch("rota(-2147483648)");
        b.noSuch("rota(2147483647)");
        b.go("ill(1, false)");
        b.noSuch("rota(2)");
        b.fresh();
        b.is("rota(-1)", 0);
        b.noSuch("rota(0)");
    }

    private void towers() {
        b.promise(23, "towers");
        b.says("TOWERS: how many (what 0), the places (1; bits). ");
        b.town(TOWN);
        b.is("towers(0, 0)", 4);
        b.is("towers(0, 1)", 1 + 8 + 32 + 512);
        b.is("towers(2, 0)", 2);
        b.is("towers(2, 1)", 130);
        b.says("NoSuchElementException: another what. ");
        noOther("towers(3, %d)", 1);
        b.says("IllegalArgumentException (behind that): not 0 to 30.");
        b.town(TOWN);
        between("towers(%d, 0)", 0, 30);
        between("towers(%d, 1)", 0, 30);
        b.noSuch("towers(31, 2)");
        b.noSuch("towers(-1, -1)");
        b.fresh();
        between("towers(%d, 0)", 0, 30);
    }

    private void heard() {
        b.promise(24, "see");
        b.says("SEEN: how much is. ");
        b.town(TOWN);
        for (int i = 1; i <= 7; i++) {
            b.is("see(1, " + i + ", 1)", i);
        }
        b.says("NONE (STATUS 2): there are 8, ");
        b.is("see(1, 12, 1999)", 8);
        b.isRefused("see(1, 1, 1)", Book.NONE, Book.OF_SEEN);
        b.isRefused("see(0, 12, 0)", Book.NONE, Book.OF_SEEN);
        b.isRefused("see(0, 0, 2000)", Book.NONE, Book.OF_SEEN);
        b.is("count(12)", 3);
        b.is("count(8)", 8);
        b.says("not 1 to 12, ");
        b.town(TOWN);
        for (int k : new int[] {Integer.MIN_VALUE, -1, 0, 13, Integer.MAX_VALUE}) {
            b.isRefused("see(0, " + k + ", 5)", Book.NONE, Book.OF_SEEN);
        }
        b.is("see(0, 1, 5)", 1);
        b.is("see(0, 12, 5)", 2);
        b.says("not 0 to 1999. ");
        for (int minute : new int[] {Integer.MIN_VALUE, -1, 2000, Integer.MAX_VALUE}) {
            b.isRefused("see(0, 1, " + minute + ")", Book.NONE, Book.OF_SEEN);
        }
        b.is("see(0, 1, 0)", 3);
        b.is("see(0, 1, 1999)", 4);
        b.is("count(12)", 9);
        b.says("NoSuchElementException (ahead): no such DUTY.");
        b.noSuch("see(2, 1, 5)");
        b.noSuch("see(-1, 13, 2000)");
        b.go("see(0, 1, 0)", "see(0, 1, 0)", "see(0, 1, 0)", "see(0, 1, 0)");
        b.noSuch("see(2, 1, 5)");
        b.is("count(12)", 9);

        b.promise(25, "forget");
        b.says("All that is SEEN is forgotten.");
        b.is("count(8)", 8);
        b.is("habits(2)", 0);
        b.go("forget()");
        b.is("count(8)", 0);
        b.is("habits(2)", 1);
        b.is("count(12)", 9);
        b.isIdle("forget()", 0);
        b.is("see(0, 1, 0)", 1);
        b.fresh();
        b.isIdle("forget()", 0);

        b.promise(26, "habits");
        b.says("HABITS: how many (what 0), the first (1; NONE: none), whether without (2). ");
        b.town("person 10 0 0;duty 100 0;duty 200 0;rings late;");
        b.is("habits(0)", 60);
        b.is("habits(1)", 0);
        b.is("habits(2)", 1);
        b.go("see(1, 1, 212)");
        b.is("habits(0)", 1);
        b.is("habits(1)", 12);
        b.is("habits(2)", 0);
        b.go("see(1, 1, 213)");
        b.is("habits(0)", 0);
        b.is("habits(1)", Book.NONE);
        b.is("habits(2)", 0);
        b.says("NoSuchElementException: another what.");
        noOther("habits(%d)", 2);
        b.fresh();
        noOther("habits(%d)", 2);

        b.promise(27, "next");
        b.says("THE NEXT DUTY (what 0; NONE), how many (1; 0: none). ");
        b.town("person 10 0 0;duty 100 0;duty 200 0;rings duty*late;mends 0;");
        b.is("next(0)", 1);
        b.is("next(1)", 60);
        b.go("see(1, 1, 212)", "see(1, 1, 213)");
        b.is("next(0)", Book.NONE);
        b.is("next(1)", 0);
        b.says("NoSuchElementException: another what.");
        noOther("next(%d)", 1);
        b.fresh();
        noOther("next(%d)", 1);
    }

    private void chances() {
        b.promise(28, "snow");
        b.says("SNOW. ");
        b.town(TOWN);
        b.is("snow(0, 1, 0)", 10);
        b.is("snow(0, 1, 5)", 10);
        b.is("snow(1, 1, 5)", 0);
        b.is("snow(3, 5, 5)", 0);
        b.says("IllegalArgumentException (behind NoSuchElementException): days, tenths.");
        between("snow(0, %d, 5)", 1, 5);
        between("snow(3, 1, %d)", 0, 10);
        b.illegal("snow(0, 0, 11)");
        b.noSuch("snow(4, 0, 5)");
        b.noSuch("snow(4, 1, 11)");
        b.noSuch("snow(-1, 6, -1)");

        b.promise(29, "game");
        b.says("A GAME: how many couples rest (what 0), the first (1; NONE: none). ");
        b.town("person 30 0 0;person 25 0 0;mule 0 0 0;duty 0 0;rings 0;mends 0;");
        b.is("game(0, 2, 0)", 1);
        b.is("game(0, 2, 1)", 10);
        b.is("game(0, 1, 0)", 0);
        b.is("game(0, 1, 1)", Book.NONE);
        b.says("NoSuchElementException: also another what. ");
        noOther("game(0, 1, %d)", 1);
        b.says("IllegalArgumentException (behind that): both are one.");
        b.illegal("game(0, 0, 0)");
        b.illegal("game(2, 2, 1)");
        b.noSuch("game(0, 0, 2)");
        b.noSuch("game(0, 0, -1)");
        b.noSuch("game(3, 3, 0)");
        b.noSuch("game(-1, -1, 1)");

        b.promise(30, "years");
        b.says("YEARS: who has RUNG most (what 0), how much behind DUE (1), HASTE (2). ");
        b.town(TOWN);
        b.is("years(5, 0, 0)", 0);
        b.is("years(5, 0, 1)", 0);
        b.is("years(5, 0, 2)", 2);
        b.go("days(1)");
        b.is("years(5, 0, 0)", 1);
        b.is("years(5, 0, 1)", 0);
        b.is("years(5, 0, 2)", 3);
        b.says("NoSuchElementException: another what. ");
        noOther("years(5, 1, %d)", 2);
        b.says("IllegalArgumentException (behind that): n.");
        b.town(TOWN);
        between("years(5, %d, 0)", 0, 40);
        between("years(-5, %d, 2)", 0, 40);
        b.noSuch("years(5, -1, 3)");
        b.noSuch("years(5, 41, -1)");
        b.fresh();
        between("years(5, %d, 1)", 0, 40);
    }

    private void nextDay() {
        b.promise(31, "coming");
        b.says("Who COMES i-th (what 0), when (1); ");
        b.town(TOWN);
        b.is("coming(0, 0, 0)", 2);
        b.is("coming(0, 0, 1)", 100);
        b.is("coming(0, 2, 0)", 1);
        b.is("coming(0, 2, 1)", 114);
        b.says("NONE: nobody does. ");
        b.is("coming(0, 3, 0)", Book.NONE);
        b.is("coming(0, 3, 1)", Book.NONE);
        b.is("coming(0, 2147483647, 1)", Book.NONE);
        b.town("cook 0 0 0;duty 0 0;");
        b.is("coming(0, 0, 0)", Book.NONE);
        b.says("NoSuchElementException: also i below 0, another what.");
        b.noSuch("coming(0, -1, 0)");
        b.noSuch("coming(0, -1, 1)");
        b.noSuch("coming(0, -2147483648, 0)");
        noOther("coming(0, 0, %d)", 1);
        b.noSuch("coming(0, 3, 2)");

        b.promise(32, "spread");
        b.says("THE SPREAD; ");
        b.town(TOWN);
        b.is("spread(0)", 14);
        b.says("NONE: nobody COMES.");
        b.go("ill(0, true)", "ill(1, true)");
        b.is("spread(0)", 0);
        b.go("ill(2, true)");
        b.is("spread(0)", Book.NONE);

        b.promise(33, "ahead");
        b.says("AHEAD; ");
        b.town(TOWN);
        b.is("ahead(2, 0)", 0);
        b.is("ahead(0, 0)", 1);
        b.is("ahead(1, 0)", 2);
        b.says("NONE: one doesn't COME.");
        b.is("ahead(3, 0)", Book.NONE);
        b.go("ill(2, true)");
        b.is("ahead(2, 0)", Book.NONE);
        b.is("ahead(0, 0)", 0);
    }

    private void homes() {
        b.promise(34, "nearest");
        b.says("NEAREST; ");
        b.town(TOWN);
        b.is("nearest(0)", 0);
        b.is("nearest(1)", 1);
        b.is("nearest(2)", 0);
        b.says("NONE: none.");
        b.town("person 0 0 0;");
        b.is("nearest(0)", Book.NONE);

        b.promise(35, "neighbours");
        b.says("NEIGHBOURS, as bits. ");
        b.town(TOWN);
        b.is("neighbours(0, 2)", 0);
        b.is("neighbours(0, 3)", 4);
        b.is("neighbours(0, 5)", 6);
        b.is("neighbours(3, 30)", 7);
        b.says("IllegalArgumentException (behind NoSuchElementException): not 0 to 30.");
        between("neighbours(0, %d)", 0, 30);
        b.noSuch("neighbours(4, 31)");
        b.noSuch("neighbours(-1, -1)");
    }

    private void manyDays() {
        b.promise(36, "toMend");
        b.says("TO MEND; ");
        b.town(TOWN);
        b.is("toMend(1, 1)", 6);
        b.is("toMend(0, 1)", 0);
        b.says("NONE: none. ");
        b.go("appoint(0)");
        b.is("toMend(0, 1)", Book.NONE);
        b.is("toMend(0, 40)", Book.NONE);
        b.says("IllegalArgumentException (behind NoSuchElementException): not 1 to 40.");
        between("toMend(0, %d)", 1, 40);
        b.noSuch("toMend(4, 0)");
        b.noSuch("toMend(-1, 41)");

        b.promise(37, "silent");
        b.says("SILENT, as bits. ");
        b.town(TOWN);
        b.is("silent(0)", 3);
        b.is("silent(1)", 1);
        b.is("silent(2)", 0);
        b.says("IllegalArgumentException: not 0 to 40.");
        between("silent(%d)", 0, 40);
        b.fresh();
        between("silent(%d)", 0, 40);

        b.promise(38, "behind");
        b.says("BEHIND. ");
        b.town(TOWN);
        b.is("behind(0)", 0);
        b.is("behind(1)", 7);
        b.is("behind(2)", 33);
        b.says("IllegalArgumentException: not 0 to 40.");
        between("behind(%d)", 0, 40);
        b.fresh();
        between("behind(%d)", 0, 40);

        b.promise(39, "most");
        b.says("MOST; ");
        b.town(TOWN);
        b.is("most(1)", 1);
        b.is("most(2)", 1);
        b.says("NONE: none RINGS. ");
        b.go("ill(0, true)", "ill(1, true)");
        b.is("most(1)", Book.NONE);
        b.is("most(40)", Book.NONE);
        b.says("IllegalArgumentException: not 1 to 40.");
        between("most(%d)", 1, 40);
        b.fresh();
        between("most(%d)", 1, 40);
    }

    private void bells() {
        b.promise(40, "soonest");
        b.says("SOONEST; ");
        b.town(TOWN);
        b.is("soonest(0, 13)", 2);
        b.is("soonest(0, 14)", 3);
        b.is("soonest(1, 7)", 1);
        b.is("soonest(1, 8)", 2);
        b.says("NONE: none. ");
        b.is("soonest(0, 120)", Book.NONE);
        b.says("IllegalArgumentException (behind NoSuchElementException): not 0 to 120.");
        between("soonest(0, %d)", 0, 120);
        b.noSuch("soonest(2, 121)");
        b.noSuch("soonest(-1, -1)");

        b.promise(41, "handed");
        b.says("HANDED. ");
        b.town(TOWN);
        b.is("handed(0)", 0);
        b.is("handed(1)", 2);
        b.is("handed(2)", 4);
        b.says("IllegalArgumentException: not 0 to 40.");
        between("handed(%d)", 0, 40);
        b.fresh();
        between("handed(%d)", 0, 40);
    }

    private void ways() {
        b.promise(42, "loses");
        b.says("LOSES, as bits.");
        b.town(TOWN);
        b.is("loses(0)", 2);
        b.is("loses(1)", 1);
        b.is("loses(2)", 0);
        b.is("loses(3)", 0);

        b.promise(43, "late");
        b.says("LATE; ");
        b.is("late(0, 1)", 27);
        b.is("late(2, 1)", 0);
        b.says("NONE: one doesn't COME.");
        b.is("late(3, 1)", Book.NONE);
        b.go("ill(0, true)");
        b.is("late(0, 1)", Book.NONE);

        b.promise(44, "prompt");
        b.says("PROMPT, as bits.");
        b.town(TOWN);
        b.is("prompt(0)", 0);
        b.go("hurry(0, 9)");
        b.is("prompt(0)", 0);
        b.go("hurry(0, 10)");
        b.is("prompt(0)", 1);
        b.is("prompt(1)", 0);

        b.promise(45, "walk");
        b.says("A WALK (0 without DUTIES).");
        b.town(TOWN);
        b.is("walk(0)", 12);
        b.is("walk(1)", 14);
        b.is("walk(3)", 18);
        b.town("person 0 0 30;");
        b.is("walk(0)", 0);

        b.promise(46, "twins");
        b.says("TWINS.");
        b.is("twins()", 0);
        b.town("person 1 2 3;person 1 2 3;");
        b.is("twins()", 1);
    }

    private void images() {
        b.promise(47, "image");
        b.says("The DAY, THE RINGER, HASTE, LATE, RUNG, who is ILL, DUE of all, ACTS and what is SEEN are kept as an image, ");
        b.town(TOWN);
        b.go("days(1)", "due(1, 300)", "ill(2, true)", "hurry(1, 33)", "see(1, 2, 3)");
        b.go("image()", "days(5)", "due(1, 5)", "ill(2, false)", "ill(0, true)", "appoint(1)", "hurry(1, 2)", "forget()",
            "undo()", "undo()", "undo()", "undo()", "undo()", "undo()", "undo()", "undo()", "undo()", "undo()");
        asKept();
        b.go("undo()", "undo()", "undo()");
        b.is("count(3)", 1);
        b.is("duty(1, 0)", 200);
        b.go("undo()");
        b.is("count(3)", 0);
        asKept();
        b.is("habits(2)", 0);
        b.go("forget()");
        asKept();
        // what is SEEN is the same, not only as much
        b.town("person 10 0 0;duty 100 0;duty 200 0;rings late;mends 0;");
        b.go("see(1, 1, 211)", "see(0, 2, 122)", "image()", "forget()", "see(0, 1, 7)", "see(1, 3, 8)", "restore()");
        b.is("habits(0)", 1);
        b.is("habits(1)", 11);
        b.town(TOWN);
        b.go("days(1)", "due(1, 300)", "ill(2, true)", "hurry(1, 33)", "see(1, 2, 3)", "image()");
        b.says("in place of another one.");
        b.go("days(1)", "image()", "days(1)");
        b.is("restore()", 1);
        b.is("count(3)", 2);
        b.is("undo()", 4);
        b.is("undo()", 3);
        b.is("restore()", 1);
        b.is("count(3)", 2);
        b.is("count(7)", 5);
        // 40 ACTS and 8 SEEN are kept with it
        b.town(TOWN);
        for (int i = 1; i <= 45; i++) {
            b.go("hurry(0, " + i + ")");
        }
        for (int i = 1; i <= 8; i++) {
            b.go("see(0, " + i + ", 7)");
        }
        b.go("image()");
        for (int i = 1; i <= 7; i++) {
            b.go("hurry(0, " + (60 - i) + ")");
        }
        b.go("forget()", "restore()");
        b.is("count(7)", 40);
        b.is("count(8)", 8);
        b.isRefused("see(0, 1, 7)", Book.NONE, Book.OF_SEEN);
        for (int i = 39; i >= 0; i--) {
            b.give("undo()", i);
            b.give("person(0, 1)", i + 5);
        }

        b.promise(48, "restore");
        b.says("They are as the image again: true. ");
        b.is("restore()", 1);
        b.is("person(0, 1)", 45);
        b.is("count(7)", 40);
        b.is("restore()", 1);
        b.is("person(0, 1)", 45);
        b.town("");
        b.go("image()", "days(3)");
        b.is("restore()", 1);
        b.is("count(3)", 0);
        // the tape, its FAULT and STATUS are none of them
        b.town(TOWN);
        b.go("image()", "days(0)");
        b.tell("?", 1);
        b.feed("pace 5;");
        b.is("restore()", 1);
        b.is("count(9)", 20);
        b.is("fault()", 0);
        b.is("count(10)", 1);
        b.is("count(11)", 1);
        b.says("False: there is none.");
        b.fresh();
        b.isIdle("restore()", 0);
        b.town(TOWN);
        b.go("days(1)");
        b.isIdle("restore()", 0);
        b.go("image()");
        b.is("restore()", 1);
        b.tell(TOWN, 0);
        b.isIdle("restore()", 0);
        b.is("count(11)", 0);
    }

    private void asKept() {
        b.is("restore()", 1);
        b.is("count(3)", 1);
        b.is("count(4)", 0);
        b.is("person(0, 1)", 2);
        b.is("person(1, 1)", 33);
        b.is("person(0, 3)", 27);
        b.is("person(1, 3)", 12);
        b.is("person(1, 4)", 1);
        b.is("count(5)", 4);
        b.is("duty(0, 0)", 100);
        b.is("duty(1, 0)", 300);
        b.is("count(7)", 4);
        b.is("count(8)", 1);
    }
}
