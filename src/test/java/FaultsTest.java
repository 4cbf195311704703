/** Promises 2 to 4 and the block of the text: which texts are towns, which FAULT is told where. */
public final class FaultsTest {
    private static final Check CHECK = new Check();

    private static void fault(String text, int fault, int place) {
        LateRingers x = new LateRingers();
        CHECK.same("town of '" + text + "'", Check.town(x, text), fault);
        CHECK.same("fault of '" + text + "'", x.fault(), place);
        CHECK.same("refused texts of '" + text + "'", x.count(10), fault == 0 ? 0 : 1);
        CHECK.same("the tape behind '" + text + "'", x.count(9), 0);
    }

    private static void good(String text) {
        fault(text, 0, LateRingers.NONE);
    }

    /** What the rule gives at the second duty, for a person who was LAST at the first one. */
    private static void rings(String expr, int want) {
        LateRingers x = Check.of("person 7 3 5;duty 100 1;duty 200 1;pace 2;rings " + expr + ";");
        CHECK.same("rings " + expr, x.then(1, 1, 0) - 200, want);
    }

    private static void mends(String expr, int want) {
        LateRingers x = Check.of("person 7 3 5;duty 100 1;pace 2;mends " + expr + ";");
        // nobody rings on the first day, so that one has HASTE 1 less behind it
        CHECK.same("mends " + expr, x.later(0, 1, 0), 3 + want - 1);
    }

    private static String times(String part, int many) {
        return part.repeat(many);
    }

    private static void lines() {
        good("");
        good("   \n ");
        good("person 0 0 0;mule 60 60 30;cook 1 2 3;duty 999 30;duty 0 0;pace 9;rings late;mends way;");
        good("\nperson\n1\n2\n3\n;\n");
        good("person 0060 0000 0030;");
        good("duty 1 2;person 1 2 3;mends 1;pace 1;rings 1;");
        fault("person", 1, 6);
        fault("person ", 1, 7);
        fault("person 1 2 3", 1, 12);
        fault("person 1 2 3  \n", 1, 15);
        fault("person 1 2;", 1, 10);
        fault("person 1 2 3 4;", 1, 13);
        fault("person a 2 3;", 1, 7);
        fault("person 1 -2 3;", 1, 9);
        fault("persons 1 2 3;", 1, 0);
        fault("personmule 1 2 3;", 1, 0);
        fault("Person 1 2 3;", 1, 0);
        fault("person 1 2 3;x", 1, 13);
        fault(";", 1, 0);
        fault("person 1 2 3;;", 1, 13);
        fault("12345", 1, 0);
        fault("late 1;", 1, 0);
        fault("not 1;", 1, 0);
        fault("person\t1 2 3;", 1, 6);
        fault("person 1 2 3;\r", 1, 13);
        fault("person 1,2 3;", 1, 8);
        fault("person 1 2 3;" + (char) 0, 1, 13);
        fault("person 1 2 3;" + (char) 233, 1, 13);
        fault("person 1 2 3" + (char) 1 + ";", 1, 12);
        good("person1 2 3;");
        fault("person 1a 2 3;", 1, 8);
    }

    private static void tooMuch() {
        fault("person 61 0 0;", 2, 7);
        fault("person 12345 0 0;", 2, 7);
        fault("person 00001 0 0;", 2, 7);
        fault("person 0 61 0;", 2, 9);
        fault("person 0 0 31;", 2, 11);
        fault("mule 0 61 0;", 2, 7);
        fault("cook 0 0 31;", 2, 9);
        fault("duty 1000 0;", 2, 5);
        fault("duty 999 31;", 2, 9);
        fault("pace 0;", 2, 5);
        fault("pace 10;", 2, 5);
        fault("pace;", 1, 4);
        fault("pace late;", 1, 5);
        good(times("person 1 2 3;", 8));
        fault(times("person 1 2 3;", 8) + "mule 1 2 3;", 2, 104);
        fault(times("cook 1 2 3;", 8) + " cook", 2, 89);
        good(times("duty 1 2;", 6));
        fault(times("duty 1 2;", 6) + "duty 1 2;", 2, 54);
        fault(times("duty 1 2;", 6) + "duty x", 2, 54);
        fault("pace 1;pace 99;", 5, 7);
        fault("pace 1;rings 1;rings", 5, 15);
        fault("mends 1;rings 1;mends ;", 5, 16);
        good("mends 1;rings 1;");
    }

    private static void exprs() {
        fault("rings ", 1, 6);
        fault("rings ;", 1, 6);
        fault("rings 1", 1, 7);
        fault("rings 1 2;", 1, 8);
        fault("rings 1 late;", 1, 8);
        fault("rings 1 foo;", 1, 8);
        fault("rings 1 12345;", 1, 8);
        fault("rings 1+;", 1, 8);
        fault("rings -1;", 1, 6);
        fault("rings 1<2<3;", 1, 9);
        fault("rings 1=2<3;", 1, 9);
        good("rings (1<2)<3;");
        fault("rings 12345;", 2, 6);
        fault("rings 00000;", 2, 6);
        good("rings 9999;");
        fault("rings (1;", 1, 8);
        fault("rings 1);", 1, 7);
        fault("rings ();", 1, 7);
        fault("rings way;", 3, 6);
        good("mends way;");
        fault("mends 1;rings way;", 3, 14);
        fault("rings home;", 3, 6);
        fault("rings and;", 3, 6);
        fault("rings 1 + or;", 3, 10);
        fault("rings 1 + not 1;", 3, 10);
        fault("rings 1 < not 1;", 3, 10);
        fault("rings not and;", 3, 10);
        fault("rings rings;", 3, 6);
        fault("rings lat;", 3, 6);
        fault("rings zz;", 3, 6);
        fault("rings az;", 3, 6);
        fault("rings `;", 1, 6);
        fault("rings {;", 1, 6);
        fault("rings :;", 1, 6);
        fault("rings lates;", 3, 6);
        fault("rings 1 and;", 1, 11);
        fault("rings 1 and", 1, 11);
        fault("rings 1 not 1;", 1, 8);
        good("rings 1 and not 1 or not not 0;");
        good("rings1;");
        good("rings(1)and(2)or(3);");
        fault("rings 1 @ 2;", 1, 8);
        good("rings duty + day + rung + haste + habit + late;");
    }

    private static void depths() {
        good("rings " + times("(", 5) + "1" + times(")", 5) + ";");
        fault("rings " + times("(", 6) + "1" + times(")", 6) + ";", 2, 12);
        fault("rings " + times("(", 7) + "1", 2, 12);
        fault("rings " + times("(", 6) + "late", 2, 12);
        fault("rings " + times("(", 6) + "foo", 2, 12);
        fault("rings " + times("(", 6) + " not", 2, 13);
        fault("rings " + times("(", 6) + "12345", 2, 12);
        fault("rings " + times("(", 6) + ")", 1, 12);
        fault("rings " + times("(", 6) + ";", 1, 12);
        fault("rings " + times("(", 6) + "+", 1, 12);
        fault("rings " + times("(", 6) + "?", 1, 12);
        fault("rings " + times("(", 6), 1, 12);
        good("rings (1)+(1)+(1)+(1)+(1)+(1)+(1)+(1);");
        good("rings " + times("not ", 6) + "1;");
        fault("rings " + times("not ", 7) + "1;", 2, 30);
        fault("rings 1 or " + times("not ", 9) + "1;", 2, 35);
        good("rings " + times("not ", 6) + "(" + times("not ", 6) + "1);");
        good("rings " + times("not ", 6) + "1 and " + times("not ", 6) + "1;");
        good("rings " + times("1+", 340) + "1;");
        // five open operators in each of five parentheses are the deepest that can stand
        good("rings " + times("0 or 1 and 0=2+3*(", 5) + "0 or 1 and 0=2+3*4" + times(")", 5) + ";");
    }

    private static void values() {
        // LATE at the first duty: 2 * 4 + 7 - 3 = 12; HASTE 4 then, RUNG 0
        rings("late", 12);
        rings("habit", 7);
        rings("haste", 4);
        rings("rung", 0);
        rings("duty", 1);
        rings("day", 0);
        rings("120", 120);
        rings("121", 120);
        rings("0-5", 0);
        rings("9999*9999*9999", Math.max(0, Math.min(120, 9999 * 9999 * 9999)));
        rings("(0-2147)*1000*1000-483*1000-649+40=0-2147*1000*1000-483*1000-609", 1);
        rings("7-2-1", 4);
        rings("24/4/2", 3);
        rings("2+3*4", 14);
        rings("(2+3)*4", 20);
        rings("7/2*2", 6);
        rings("(0-7)/2+10", 7);
        rings("5/0", 0);
        rings("1/0+3", 3);
        rings("3<4", 1);
        rings("4<4", 0);
        rings("4=4", 1);
        rings("not 4=4", 0);
        rings("not 0", 1);
        rings("not not 5", 1);
        rings("5 and 7", 1);
        rings("5 and 0", 0);
        rings("0 or 9", 1);
        rings("0 or 0", 0);
        rings("1 or 0 and 0", 1);
        rings("(1 or 0) and 0", 0);
        rings("1+1<3", 1);
        rings("2*(late<13)+(late=12)", 3);
        rings("0 or 1 and 0=2+3*(0 or 1 and 14=2+3*4)", 0);
        mends("4", 4);
        mends("9", 9);
        mends("10", 9);
        mends("0-1", 0);
        mends("way", 4);
        mends("late-10", 2);
        mends("haste", 3);
        mends("habit", 7);
        mends("day+rung+duty", 0);
    }

    private static void tape() {
        LateRingers x = new LateRingers();
        for (int i = 1; i <= 35; i++) {
            CHECK.same("feed " + i, x.feed(0x20202020, 0x20202020, 0x20202020, 0x20202020, 0x20202020), 20 * i);
        }
        CHECK.same("feed of a full tape", x.feed(0, 0, 0, 0, 0), LateRingers.NONE);
        CHECK.same("the full tape", x.count(9), 700);
        CHECK.refuses("town(701)", Check.ILLEGAL, () -> x.town(701));
        CHECK.refuses("town(-1)", Check.ILLEGAL, () -> x.town(-1));
        CHECK.same("the tape as it was", x.count(9), 700);
        CHECK.same("town(700)", x.town(700), 0);
        CHECK.same("the tape is empty", x.count(9), 0);
        CHECK.refuses("town(1) of an empty tape", Check.ILLEGAL, () -> x.town(1));
        CHECK.same("town(0)", x.town(0), 0);
        CHECK.same("feed of other bytes", x.feed(0x70657273, 0x6f6e2031, 0x20322033, 0x3bff0001, -1), 20);
        CHECK.same("town of the first bytes", x.town(13), 0);
        CHECK.same("one person", x.count(0), 1);
        CHECK.same("HABIT", x.person(0, 0), 1);
        CHECK.same("HASTE", x.person(0, 1), 2);
        CHECK.same("HOME", x.person(0, 2), 3);
    }

    private static void faultsAndWhatStays() {
        LateRingers x = Check.of("person 1 2 3;duty 5 6;pace 3;");
        x.days(2);
        x.see(0, 1, 5);
        x.image();
        CHECK.same("a town with a fault", Check.town(x, "person 1 2 x;"), 1);
        CHECK.same("its place", x.fault(), 11);
        CHECK.same("PEOPLE stay", x.count(0), 1);
        CHECK.same("PACE stays", x.count(2), 3);
        CHECK.same("the DAY stays", x.count(3), 2);
        CHECK.same("ACTS stay", x.count(7), 1);
        CHECK.same("SEEN stays", x.count(8), 1);
        CHECK.refuses("town(3)", Check.ILLEGAL, () -> x.town(3));
        CHECK.same("the place stays, if the call throws", x.fault(), 11);
        CHECK.yes("the image stays", x.restore());
        x.hurry(0, 61);
        x.see(0, 0, 0);
        CHECK.same("a good town", Check.town(x, "duty 7 8;"), 0);
        CHECK.same("no place", x.fault(), LateRingers.NONE);
        CHECK.same("no PEOPLE", x.count(0), 0);
        CHECK.same("PACE without", x.count(2), 2);
        CHECK.same("the DAY anew", x.count(3), 0);
        CHECK.same("no ACTS", x.count(7), 0);
        CHECK.same("no SEEN", x.count(8), 0);
        CHECK.no("no image", x.restore());
        CHECK.same("STATUS 0 stays", x.count(10), 1);
        CHECK.same("STATUS 1 stays", x.count(11), 1);
        CHECK.same("STATUS 2 stays", x.count(12), 1);
        Check.town(x, "?");
        Check.town(x, "?");
        CHECK.same("STATUS 0 counts", x.count(10), 3);
    }

    public static void main(String[] args) {
        lines();
        tooMuch();
        exprs();
        depths();
        values();
        tape();
        faultsAndWhatStays();
        CHECK.end();
    }
}
