/** "What it is", from the document's first line on: each thing that it names is there. */
final class StoryEdges {
    /** 1 is LAST at the first bell (by 14), 0 at the second one (by 27), which RINGS 7 behind its DUE. */
    private static final String TOWN = "person 10 2 0;person 4 0 5;duty 100 0;duty 200 6;pace 2;";

    private final Book b;

    StoryEdges(Book b) {
        this.b = b;
    }

    void run() {
        b.part("What it is", "## What it is\n", "==== 1.\n");
        late();
        rules();
        kinds();
        acts();
        bells();
        choices();
        heard();
        chances();
    }

    private void late() {
        b.says("Bells are rung by those who are late: ");
        b.town(TOWN);
        b.is("then(0, 1, 0)", 100);
        b.is("then(1, 1, 0)", 207);
        b.is("then(0, 2, 0)", 113);
        b.is("first(1)", 1);
        b.is("first(0)", 2);

        b.says("people with habits and haste who come to duties when the bell has rung, from their homes to towers; ");
        b.is("person(0, 0)", 10);
        b.is("person(0, 1)", 2);
        b.is("person(1, 2)", 5);
        b.is("duty(1, 1)", 6);
        b.is("coming(0, 0, 1)", 108);
        b.is("coming(0, 1, 1)", 114);
        // to the second TOWER it is 1 and 6
        b.is("coming(1, 0, 1)", 212);
        b.is("coming(1, 1, 1)", 227);
        b.go("hurry(1, 60)");
        // 0 was LAST at the first bell, by 8, so that the second one RINGS at 204, and 1 isn't there ahead of that
        b.is("coming(0, 0, 1)", 100);
        b.is("coming(1, 0, 1)", 204);
    }

    private void rules() {
        b.says("whoever comes last must ring for the next duty, as late as a rule in a language makes it, and mends by another rule; ");
        b.town(TOWN + "rings late-4+duty;mends way/2;");
        b.is("then(0, 1, 0)", 100);
        b.is("then(0, 1, 1)", 1);
        b.is("then(1, 1, 0)", 211);
        b.is("then(1, 1, 1)", 0);
        b.is("then(0, 2, 0)", 127);
        // 0 had 3 more for a way of 6, and 1 less for not ringing; 1 had 2 more for a way of 5
        b.is("later(0, 1, 0)", 4);
        b.is("later(1, 1, 0)", 2);
    }

    private void kinds() {
        b.says("mules that are never late, cooks who don't come; ");
        b.town("person 0 0 0;mule 60 0 30;cook 60 0 30;duty 100 0;duty 200 0;pace 9;rings 30;");
        b.is("then(1, 1, 0)", 230);
        b.is("late(0, 1)", 30);
        b.is("late(1, 0)", 0);
        b.is("late(1, 1)", 0);
        b.is("late(2, 1)", Book.NONE);
        b.is("coming(1, 0, 0)", 1);
        b.is("coming(1, 1, 0)", 0);
        b.is("coming(1, 2, 0)", Book.NONE);
        b.is("loses(0)", 3);
        b.is("loses(1)", 0);
        b.is("loses(2)", 0);
    }

    private void acts() {
        b.says("days, haste that is told, illness, a ringer who is appointed, duties that are moved, all undone; ");
        b.town(TOWN);
        b.gives("days(2) = 2", "hurry(1, 20) = 2", "ill(0, true) = 1", "appoint(1) = 0", "due(1, 300) = 200");
        b.gives("count(3) = 2", "person(1, 1) = 20", "count(5) = 1", "count(4) = 1", "duty(1, 0) = 300");
        b.gives("undo() = 4", "duty(1, 0) = 200", "undo() = 3", "count(4) = 0", "undo() = 2", "count(5) = 0",
            "undo() = 1", "person(1, 1) = 2", "undo() = 0", "count(3) = 0", "person(1, 1) = 0", "count(4) = -1");
        b.isIdle("undo()", Book.NONE);
    }

    private void bells() {
        b.says("when which bell rings, who is last, who rings how often, when all comes round again; ");
        b.town(TOWN);
        b.is("then(1, 2, 0)", 213);
        b.is("then(1, 2, 1)", 0);
        b.is("later(0, 2, 1)", 1);
        b.is("later(1, 2, 1)", 2);
        // HASTE is 8, 17, .. 53, 60, 60; LATE is 30 from the 2nd DAY on
        b.town("person 5 0 0;duty 10 0;rings 30;mends 9;");
        b.is("round(0)", 8);
        b.is("round(1)", 7);
    }

    private void choices() {
        b.says("by how much one must be delayed so as to be last, who come last together, whom to set to which duty, "
            + "how few towers all could live near; ");
        b.town(TOWN);
        b.is("delay(0, 0)", 6);
        b.is("delay(1, 1)", 15);
        b.is("club(0, 1)", 2);
        b.is("club(0, 2)", 3);
        b.is("rota(-1)", 14);
        b.is("rota(0)", 0);
        b.is("rota(1)", 1);
        b.is("towers(2, 0)", 2);
        b.is("towers(2, 1)", 9);
        b.is("towers(3, 0)", 1);
        b.is("towers(3, 1)", 4);
    }

    private void heard() {
        b.says("whose habit was another by which bells were heard, which duty to listen for next; ");
        // by HABIT h the bells RING 0 and h behind DUE on the first DAY, h / 2 and h + h / 2 on the second one
        b.town("person 10 0 0;duty 0 0;duty 500 0;rings late/(4-3*duty);mends 0;");
        b.give("see(0, 2, 7)", 1);
        b.is("habits(0)", 2);
        b.is("habits(1)", 14);
        b.is("habits(2)", 0);
        b.is("next(0)", 1);
        b.is("next(1)", 2);
        b.give("see(1, 2, 522)", 2);
        b.is("habits(0)", 1);
        b.is("habits(1)", 15);
        b.is("next(0)", 0);
        b.is("next(1)", 1);
    }

    private void chances() {
        b.says("how likely one rings in snow, ");
        // only snow on the second DAY makes 1 so LATE that it mends, and is no later than 0 on the third one
        b.town("person 9 0 0;person 10 0 0;duty 0 0;rings 0;mends late/20;");
        b.is("snow(0, 2, 4)", 0);
        b.is("snow(1, 2, 4)", 100);
        b.is("snow(0, 3, 4)", 400);
        b.is("snow(1, 3, 4)", 600);

        b.says("a game of two who hurry, ");
        // gains are 1 and 8, 1 and 7 if 1 hurries, 4 and 4 if 0 does, 0 and 7 if both do: each couple has one who would change
        b.town("person 10 0 0;person 5 0 0;duty 0 0;rings 0;mends 0;");
        b.is("game(0, 1, 0)", 0);
        b.is("game(0, 1, 1)", Book.NONE);
        // whoever hurries here only loses by it
        b.town("person 60 0 0;person 0 0 0;duty 0 0;rings 0;mends 0;");
        b.is("game(0, 1, 0)", 1);
        b.is("game(0, 1, 1)", 0);

        b.says("years by a seed. ");
        // by 5 first 1, then 0 is made THE RINGER; by 1 first nothing is, then 1 falls ILL
        b.town("person 10 0 0;person 5 0 0;duty 0 0;rings 7;mends 0;");
        b.is("years(5, 1, 0)", 1);
        b.is("years(5, 1, 1)", 7);
        b.is("years(5, 2, 0)", 0);
        b.is("years(5, 2, 1)", 14);
        b.is("years(1, 1, 1)", 0);
        b.is("years(1, 2, 0)", 0);
        b.is("years(1, 2, 1)", 7);
        b.is("years(5, 2, 1)", 14);
    }
}
