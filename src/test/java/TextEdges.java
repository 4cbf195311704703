/** The edges of "Terms" up to "==== 2.": PEOPLE, DUTIES, the TEXT, its TOKENS, LINEs, EXPRs and FAULTS. */
final class TextEdges {
    private static final String[] KINDS = {"person", "mule", "cook"};
    /** 2147483647, which is more than a NUMBER can tell. */
    private static final String BIG = "(2147*1000*1000+483*1000+647)";
    private static final String LEAST = "(0-" + BIG + "-1)";
    private static final String SIGNS = ";()+-*/<=";

    /** As many PEOPLE and DUTIES as can be; 7 is always LAST, and RINGS 60 minutes behind DUE, at the last DUTY 68. */
    static final String FULL = "person 1 0 0;person 2 0 0;person 3 0 0;person 4 0 0;person 5 0 0;person 6 0 0;"
        + "person 7 0 0;person 8 0 0;duty 0 0;duty 100 0;duty 200 0;duty 300 0;duty 400 0;duty 500 0;"
        + "rings 60+habit*(duty=5);mends 0;";

    private final Book b;

    TextEdges(Book b) {
        this.b = b;
    }

    void run() {
        b.part("Terms", "## Terms\n", "==== 2. ");
        people();
        duties();
        bytes();
        tokens();
        lines();
        exprs();
        arithmetic();
        values();
        faultsAlong();
        faultsOne();
        faultsTooMuch();
        faultsOthers();
    }

    private static String times(String part, int many) {
        return part.repeat(many);
    }

    /** What RINGS gives at the second bell for one who is 12 LATE, has HABIT 7, HASTE 4 and hasn't RUNG. */
    private void rings(String expr, int want) {
        b.town("person 7 3 5;duty 100 1;duty 200 1;pace 2;rings " + expr + ";");
        b.give("then(1, 1, 0)", 200 + want);
    }

    /** What MENDS gives at the first bell for one who is 12 LATE, has HABIT 7, HASTE 3 and 4 to the TOWER. */
    private void mends(String expr, int want) {
        b.town("person 7 3 5;duty 100 1;pace 2;mends " + expr + ";");
        // nobody RINGS on that DAY, so that HASTE is 1 less behind it
        b.give("later(0, 1, 0)", 3 + want - 1);
    }

    /** "at most 8", "at most 6": each question in a TOWN that is full. */
    private void fullTown() {
        b.town(FULL);
        b.gives("then(0, 1, 0) = 0", "then(5, 1, 0) = 568", "then(0, 2, 0) = 60", "then(5, 40, 0) = 568",
            "then(5, 40, 1) = 7", "then(0, 1, 1) = 7", "count(0) = 8", "count(1) = 6", "later(7, 1, 1) = 5",
            "later(7, 2, 1) = 11", "first(7) = 1", "first(6) = -1", "worst(1) = 5", "worst(2) = 5", "idle(1) = 127",
            "round(0) = 2", "round(1) = 1", "delay(0, 5) = 7", "delay(6, 5) = 1", "delay(7, 5) = 0",
            "club(5, 1) = 128", "club(5, 6) = 252", "rota(-1) = 21", "rota(5) = 5", "towers(0, 0) = 1",
            "towers(0, 1) = 1", "habits(0) = 480", "habits(1) = 0", "next(0) = 5", "next(1) = 54",
            "snow(7, 1, 5) = 10", "snow(0, 5, 5) = 0", "game(6, 7, 0) = 1", "game(6, 7, 1) = 11",
            "years(5, 0, 0) = 0", "coming(5, 0, 0) = 0", "coming(5, 0, 1) = 569", "coming(5, 7, 0) = 7",
            "spread(5) = 7", "ahead(7, 5) = 7", "nearest(7) = 0", "neighbours(7, 0) = 127", "toMend(7, 1) = 1",
            "toMend(7, 2) = 2", "silent(0) = 63", "silent(1) = 1", "silent(2) = 0", "behind(1) = 308",
            "behind(2) = 676", "most(1) = 7", "most(40) = 7", "soonest(5, 68) = 1", "soonest(5, 69) = -1",
            "soonest(0, 60) = 2", "handed(40) = 1", "loses(7) = 63", "loses(0) = 0", "late(7, 5) = 76",
            "late(0, 5) = 69", "prompt(5) = 0", "walk(7) = 0", "twins() = 0");
        b.go("days(1)");
        b.is("person(7, 4)", 5);
        b.is("person(7, 3)", 76);
        b.is("person(0, 3)", 69);
        b.is("count(6)", 0);
        b.is("undo()", 0);
    }

    private void people() {
        b.says("PEOPLE 0, 1 .. (at most 8): ");
        b.town(times("person 1 2 3;", 7));
        b.is("count(0)", 7);
        b.noSuch("person(7, 0)");
        b.town(times("person 1 2 3;", 5) + "mule 4 5 6;cook 7 8 9;person 9 9 9;");
        b.is("count(0)", 8);
        b.is("person(0, 0)", 1);
        b.is("person(7, 0)", 9);
        b.noSuch("person(8, 0)");
        b.noSuch("person(-1, 0)");
        b.fault(times("person 1 2 3;", 8) + "person 1 2 3;", 2, 104);
        fullTown();

        b.says("HABIT (0 to 60 minutes), ");
        between("%s %d 1 2;", 0, 60, 0);
        b.says("HASTE (0 to 60), ");
        between("%s 3 %d 2;", 0, 60, 1);
        b.says("HOME (0 to 30); ");
        between("%s 3 1 %d;", 0, 30, 2);

        b.says("a mule is never LAST, ");
        b.town("mule 60 0 30;duty 10 0;duty 20 0;");
        b.is("then(0, 1, 1)", Book.NONE);
        b.is("loses(0)", 0);
        b.is("club(0, 1)", Book.NONE);
        b.town("mule 60 0 0;person 0 0 30;duty 10 0;pace 1;rings 0;");
        b.go("hurry(1, 60)");
        // both COME when it is DUE, the mule nearer to the TOWER
        b.is("coming(0, 0, 1)", 10);
        b.is("coming(0, 1, 1)", 10);
        b.is("then(0, 1, 1)", 1);

        b.says("a cook never COMES. ");
        b.town("cook 0 0 0;duty 10 0;");
        b.is("coming(0, 0, 0)", Book.NONE);
        b.is("coming(0, 0, 1)", Book.NONE);
        b.is("spread(0)", Book.NONE);
        b.is("late(0, 0)", Book.NONE);
        b.is("ahead(0, 0)", Book.NONE);
        b.is("then(0, 1, 1)", Book.NONE);
        b.go("ill(0, true)", "ill(0, false)", "days(1)");
        b.is("count(4)", Book.NONE);
        b.is("person(0, 3)", 0);
    }

    /** A number of each kind of PEOPLE: the least, the most, and one more. */
    private void between(String line, int least, int most, int what) {
        for (String kind : KINDS) {
            b.town(String.format(line, kind, least));
            b.is("person(0, " + what + ")", least);
            b.town(String.format(line, kind, most));
            b.is("person(0, " + what + ")", most);
            int place = line.indexOf("%d") - 2 + kind.length();
            b.fault(String.format(line, kind, most + 1), 2, place);
            b.fault(String.format(line, kind, -1), 1, place);
        }
    }

    private void duties() {
        b.says("DUTIES 0, 1 .. (at most 6): ");
        b.town(times("duty 1 2;", 5));
        b.is("count(1)", 5);
        b.noSuch("duty(5, 0)");
        b.town(times("duty 1 2;", 5) + "duty 7 8;");
        b.is("count(1)", 6);
        b.is("duty(0, 0)", 1);
        b.is("duty(5, 0)", 7);
        b.noSuch("duty(6, 0)");
        b.noSuch("duty(-1, 0)");
        b.fault(times("duty 1 2;", 6) + "duty 1 2;", 2, 54);

        b.says("DUE (minute 0 to 999), ");
        b.town("duty 0 5;");
        b.is("duty(0, 0)", 0);
        b.town("duty 999 5;");
        b.is("duty(0, 0)", 999);
        b.fault("duty 1000 5;", 2, 5);
        b.fault("duty -1 5;", 1, 5);
        b.says("a TOWER (at 0 to 30). ");
        b.town("duty 5 0;");
        b.is("duty(0, 1)", 0);
        b.town("duty 5 30;");
        b.is("duty(0, 1)", 30);
        b.fault("duty 5 31;", 2, 7);
        b.fault("duty 5 -1;", 1, 7);

        b.says("PACE (1 to 9; 2 without). ");
        b.fault("pace 0;", 2, 5);
        b.town("pace 1;");
        b.is("count(2)", 1);
        b.town("pace 9;");
        b.is("count(2)", 9);
        b.fault("pace 10;", 2, 5);
        b.fault("pace -1;", 1, 5);
        b.town("");
        b.is("count(2)", 2);
        b.town("person 0 0 1;duty 0 0;");
        b.is("walk(0)", 2);

        b.says("Rules: RINGS, MENDS.");
        b.town("person 9 0 0;duty 10 0;duty 20 0;rings 7;");
        b.is("then(1, 1, 0)", 27);
        b.is("later(0, 1, 0)", 2);
        b.town("person 9 0 0;duty 10 0;duty 20 0;mends 7;");
        b.is("then(1, 1, 0)", 24);
        b.is("later(0, 1, 0)", 14);
    }

    private void bytes() {
        b.says("A TEXT of at most 700 bytes tells it. ");
        String person = "person 1 2 3;";
        b.town(times(" ", 687) + person);
        b.is("count(0)", 1);
        b.fault(times(" ", 688) + "person 1 2 3", 1, 700);
        b.fault(times(" ", 699) + ";", 1, 699);
        b.fresh();
        b.feed(times(" ", 687) + person);
        b.is("count(9)", 700);
        b.isIdle("feed(0, 0, 0, 0, 0)", Book.NONE);
        b.give("town(699)", 1);
        b.give("fault()", 699);
    }

    private void tokens() {
        b.says("TOKENS: words (a .. z, the longest row), ");
        b.fault("rings a;", 3, 6);
        b.fault("rings z;", 3, 6);
        b.fault("rings `;", 1, 6);
        b.fault("rings {;", 1, 6);
        b.fault("rings A;", 1, 6);
        b.fault("rings Z;", 1, 6);
        b.fault("rings latea;", 3, 6);
        b.fault("rings latez;", 3, 6);
        b.fault("rings late`;", 1, 10);
        b.fault("rings late{;", 1, 10);
        b.fault("personmule 1 2 3;", 1, 0);
        b.fault("perso 1 2 3;", 1, 0);
        b.fault("per son 1 2 3;", 1, 0);
        b.fault("Person 1 2 3;", 1, 0);
        b.good("person1 2 3;");
        b.good("rings not(late)and(habit);");

        b.says("NUMBERS (1 to 4 digits), ");
        b.town("person 0 9 8;");
        b.is("person(0, 0)", 0);
        b.is("person(0, 1)", 9);
        b.is("person(0, 2)", 8);
        b.town("person 0060 007 03;");
        b.is("person(0, 0)", 60);
        b.is("person(0, 1)", 7);
        b.is("person(0, 2)", 3);
        b.fault("person 00060 7 3;", 2, 7);
        b.good("rings 9999;");
        b.fault("rings 10000;", 2, 6);
        rings("0119", 119);
        b.fault("rings :;", 1, 6);
        b.fault("person 1 2 3 0;", 1, 13);

        b.says("signs ; ( ) + - * / < = ; ");
        for (int sign = 0; sign < 256; sign++) {
            between(sign);
        }
        b.says("blanks (32, 10) between them count for nothing. ");
        for (int blank = 0; blank < 256; blank++) {
            String text = "person 1 2 3;" + (char) blank + "duty 1 2;";
            if (blank == 32 || blank == 10) {
                b.good(text);
            } else {
                b.fault(text, 1, 13);
            }
        }
        b.good(" \n\n  person \n1\n2 \n 3  ;\n ");
        b.good(" ");
        b.good("\n");
        b.town("person 1 2\n3;rings\n1 <\n2;");
        b.is("person(0, 2)", 3);
    }

    /** Each byte there is, between two NUMBERS of an EXPR. */
    private void between(int sign) {
        String text = "rings 1" + (char) sign + "1;";
        boolean isOperator = SIGNS.indexOf(sign) > 2;
        if (isOperator || sign >= '0' && sign <= '9') {
            b.good(text);
        } else if (sign == 32 || sign == 10 || sign == ';') {
            b.fault(text, 1, 8);
        } else {
            b.fault(text, 1, 7);
        }
    }

    private void lines() {
        b.says("In quotes is what stands there, [ ] perhaps, * any number of times, | one of some. ");
        b.good("rings 1;");
        b.good("rings 1<2;");
        b.fault("rings 1<2<3;", 1, 9);
        b.good("rings 1" + times("+1", 346) + ";");
        b.good("rings 1" + times("*1", 346) + ";");
        b.good("rings 1" + times("or 1", 173) + ";");
        b.good("rings 1" + times("and 1", 138) + ";");
        b.fault("rings 'late';", 1, 6);
        b.fault("[person 1 2 3;]", 1, 0);

        b.says("TOWN: LINE*. ");
        b.good("");
        b.good("pace 1;");
        b.good("duty 1 2;mends 1;cook 1 2 3;pace 1;rings 1;mule 1 2 3;duty 3 4;person 1 2 3;");
        b.fault("pace 1;late", 1, 7);
        b.fault("pace 1;1", 1, 7);
        b.fault("pace 1;;", 1, 7);

        b.says("LINE: (('person' | 'mule' | 'cook') HABIT HASTE HOME | 'duty' DUE TOWER | 'pace' NUMBER"
            + " | ('rings' | 'mends') EXPR) ';', all in capitals but EXPR being NUMBERS.");
        for (String line : new String[] {"person 1 2 3 ;", "mule 1 2 3 ;", "cook 1 2 3 ;", "duty 1 2 ;", "pace 1 ;",
            "rings 1 ;", "mends 1 ;"}) {
            oneLine(line.split(" "));
        }
    }

    /** The line cut short behind each TOKEN, and with something else in the place of each. */
    private void oneLine(String[] tokens) {
        StringBuilder told = new StringBuilder();
        boolean isRule = tokens[0].equals("rings") || tokens[0].equals("mends");
        for (int i = 0; i < tokens.length; i++) {
            if (i > 0) {
                b.fault(told.toString().trim(), 1, told.length() - 1);
            }
            b.fault(told + "?", 1, told.length());
            b.fault(told + ")", 1, told.length());
            b.fault(told + "foo", isRule && i == 1 ? 3 : 1, told.length());
            if (i == 0 || i == tokens.length - 1) {
                b.fault(told + "7", 1, told.length());
            } else {
                b.fault(told + ";", 1, told.length());
            }
            told.append(tokens[i]).append(' ');
        }
        b.good(told.toString());
    }

    private void exprs() {
        b.says("EXPR: AND ('or' AND)*. ");
        rings("1 or 0 and 0", 1);
        rings("0 and 0 or 1", 1);
        rings("0 or 0 or 5", 1);
        b.fault("rings or 1;", 3, 6);
        b.fault("rings 1 or;", 1, 10);
        b.fault("rings 1 or or 1;", 3, 11);

        b.says("AND: NOT ('and' NOT)*. ");
        rings("not 0 and 0", 0);
        rings("1 and 1 and 0", 0);
        rings("1 and not 0", 1);
        b.fault("rings and 1;", 3, 6);
        b.fault("rings 1 and;", 1, 11);

        b.says("NOT: 'not' NOT | SUM [('<' | '=') SUM]. ");
        rings("not 1<2", 0);
        rings("not not 1<2", 1);
        rings("1+1<1+2", 1);
        rings("2=1+1", 1);
        b.fault("rings 1<2<3;", 1, 9);
        b.fault("rings 1<2=3;", 1, 9);
        b.fault("rings 1=2=3;", 1, 9);
        b.fault("rings 1=2<3;", 1, 9);
        b.fault("rings 1 < not 2;", 3, 10);
        b.fault("rings not;", 1, 9);
        b.fault("rings 1 not 2;", 1, 8);
        b.fault("rings <1;", 1, 6);

        b.says("SUM: PRODUCT (('+' | '-') PRODUCT)*. ");
        rings("2+3*4", 14);
        rings("20-3*4", 8);
        b.fault("rings -1;", 1, 6);
        b.fault("rings +1;", 1, 6);
        b.fault("rings 1+;", 1, 8);
        b.fault("rings 1+-1;", 1, 8);

        b.says("PRODUCT: PART (('*' | '/') PART)*. ");
        rings("3*4+2", 14);
        rings("9/3-1", 2);
        b.fault("rings *1;", 1, 6);
        b.fault("rings 1*;", 1, 8);
        b.fault("rings 1//1;", 1, 8);

        b.says("PART: NUMBER | VALUE | '(' EXPR ')'. ");
        rings("5", 5);
        rings("habit", 7);
        rings("(2+3)*4", 20);
        rings("(1 or 0) and 0", 0);
        rings("(1<2)<3", 1);
        rings("2*(not 0)", 2);
        b.fault("rings ();", 1, 7);
        b.fault("rings (1;", 1, 8);
        b.fault("rings 1);", 1, 7);
        b.fault("rings (1));", 1, 9);
        b.fault("rings (1 2);", 1, 9);
        b.fault("rings (", 1, 7);
        b.fault("rings 1(2);", 1, 7);
    }

    private void arithmetic() {
        b.says("From the left; ");
        rings("7-2-1", 4);
        rings("7-2+1", 6);
        rings("24/4/2", 3);
        rings("24/4*2", 12);
        rings("7/2*2", 6);

        b.says("ints that wrap, ");
        rings(BIG + "<0", 0);
        rings(BIG + "+1<0", 1);
        rings(BIG + "+1=" + LEAST, 1);
        rings(LEAST + "-1=" + BIG, 1);
        rings(BIG + "*2+7", 5);
        rings(LEAST + "/(0-1)=" + LEAST, 1);

        b.says("/ cut down to 0, ");
        rings("6/2", 3);
        rings("7/2", 3);
        rings("1/2", 0);
        rings("(0-7)/2+10", 7);
        rings("7/(0-2)+10", 7);
        rings("(0-7)/(0-2)", 3);
        rings("(0-1)/2+5", 5);

        b.says("by 0 gives 0; ");
        rings("5/0", 0);
        rings("5/0+3", 3);
        rings("0/0+3", 3);
        rings("(0-5)/0+3", 3);
        rings(LEAST + "/0+3", 3);
        rings("9/(2-2)+3", 3);
        rings("9/rung+3", 3);
        rings("9/1", 9);

        b.says("tests, not, and, or are 1 or 0 (what isn't 0 holds). ");
        rings("3<4", 1);
        rings("4<4", 0);
        rings("5<4", 0);
        rings("3=4", 0);
        rings("4=4", 1);
        rings("5=4", 0);
        rings("not 0", 1);
        rings("not 1", 0);
        rings("not 5", 0);
        rings("not (0-1)", 0);
        rings("5 and 7", 1);
        rings("(0-1) and 2", 1);
        rings("2 and 4", 1);
        rings("5 and 0", 0);
        rings("0 and 5", 0);
        rings("0 and 0", 0);
        rings("0 or 9", 1);
        rings("9 or 0", 1);
        rings("0 or (0-3)", 1);
        rings("5 or 7", 1);
        rings("0 or 0", 0);
        // what doesn't hold is 0, not only less than 1
        rings("(4<4)+5", 5);
        rings("(5<4)+5", 5);
        rings("(3=4)+5", 5);
        rings("(not 7)+5", 5);
        rings("(1 and 0)+5", 5);
        rings("(0 or 0)+5", 5);
        rings("(3<4)+(4=4)+(not 0)+(2 and 4)+(0 or 8)", 5);
    }

    private void values() {
        b.says("VALUES of a PERSON and a DUTY: 'late' (how LATE one is), ");
        rings("late", 12);
        mends("late-9", 3);
        b.says("'habit', ");
        rings("habit", 7);
        mends("habit", 7);
        b.says("'haste', ");
        rings("haste", 4);
        mends("haste", 3);
        b.says("'rung' (how often one has RUNG), ");
        rings("rung", 0);
        mends("rung", 0);
        b.town("person 7 3 5;duty 100 1;duty 200 1;pace 2;rings rung;mends 0;");
        b.is("then(0, 2, 0)", 101);
        b.is("then(1, 2, 0)", 202);
        b.says("'duty' (its number), ");
        rings("duty", 1);
        mends("duty", 0);
        b.town("person 7 3 5;" + times("duty 100 1;", 6) + "rings duty;");
        b.go("appoint(0)");
        b.is("then(0, 1, 0)", 100);
        b.is("then(5, 1, 0)", 105);
        b.says("'day', ");
        rings("day", 0);
        mends("day", 0);
        b.town("person 7 3 5;duty 100 1;rings day;");
        b.is("then(0, 2, 0)", 101);
        b.is("then(0, 40, 0)", 139);
        b.go("days(20)");
        b.is("then(0, 1, 0)", 120);
        b.says("of MENDS also 'way' (how far HOME is from its TOWER).");
        mends("way", 4);
        b.fault("rings way;", 3, 6);
        b.good("mends way;");
        b.town("person 60 0 30;duty 0 30;mends 1+way;");
        b.is("later(0, 1, 0)", 0);
        b.town("person 60 0 30;duty 0 0;mends (way=30)*9;");
        b.is("later(0, 1, 0)", 8);
        b.town("person 60 0 3;duty 0 10;pace 9;mends way;");
        b.is("later(0, 1, 0)", 6);
    }

    private void faultsAlong() {
        b.says("FAULTS, the first along the text, ");
        b.fault("person 61 61 31;", 2, 7);
        b.fault("person 60 61 31;", 2, 10);
        b.fault("person 60 60 31;", 2, 13);
        b.fault("rings way;pace 0;?", 3, 6);
        b.fault("pace 0;rings way;?", 2, 5);
        b.fault("pace 1;?rings way;pace 0;", 1, 7);
        b.fault("pace 1;pace 0;", 5, 7);
        b.fault("rings foo+12345;", 3, 6);
        b.fault("rings 12345+foo;", 2, 6);

        b.says("at a TOKEN's first byte, ");
        b.fault("  persons 1 2 3;", 1, 2);
        b.fault("person \n 123456 2 3;", 2, 9);
        b.fault("rings\n\nfoofoo;", 3, 7);
        b.fault("pace 1;   pace 1;", 5, 10);
        b.fault("pace 1;   ?", 1, 10);

        b.says("of one TOKEN the least: ");
        b.fault("rings 1 12345;", 1, 8);
        b.fault("rings 1 foo;", 1, 8);
        b.fault("12345", 1, 0);
        b.fault("foo", 1, 0);
        b.fault("pace 1 pace 2;", 1, 7);
        b.fault("pace pace 2;", 1, 5);
        b.fault("rings ((((((foo", 2, 12);
        b.fault("rings ((((((way", 2, 12);
        b.fault("rings (((((foo", 3, 11);
        b.fault("rings ((((((;", 1, 12);
        b.fault("person 1 2 12345", 2, 11);
        b.fault("person 1 2 3 12345", 1, 13);
    }

    private void faultsOne() {
        b.says("1 a TOKEN that can't stand there, or is none ");
        b.fault("1", 1, 0);
        b.fault("late 1;", 1, 0);
        b.fault("not 1;", 1, 0);
        b.fault("(person 1 2 3);", 1, 0);
        b.fault("person 1 2 3 duty 1 2;", 1, 13);
        b.fault("person 1 late 3;", 1, 9);
        b.fault("pace (1);", 1, 5);
        b.fault("duty 1+1 2;", 1, 6);
        b.fault("person 1.5 2 3;", 1, 8);
        b.fault("person 1 2 3;" + (char) 0, 1, 13);
        b.fault("person 1 2 3;" + (char) 255, 1, 13);
        b.fault("rings " + (char) 128 + ";", 1, 6);

        b.says("(the text's length where it ends too soon); ");
        b.fault("person", 1, 6);
        b.fault("person ", 1, 7);
        b.fault("person 1 2 3", 1, 12);
        b.fault("person 1 2 3 \n ", 1, 15);
        b.fault("rings", 1, 5);
        b.fault("rings 1+", 1, 8);
        b.fault("rings (1", 1, 8);
        b.fault("rings not ", 1, 10);
        b.fault("rings ((((((", 1, 12);
        b.fault("pace 1;p", 1, 7);
        b.fresh();
        b.feed("person 1 2 3;pace 1;");
        // the text is what town is told of the tape, not the tape
        b.give("town(12)", 1);
        b.give("fault()", 12);
        b.feed("person 10 2 3;");
        b.give("town(8)", 1);
        b.give("fault()", 8);
    }

    private void faultsTooMuch() {
        b.says("2 one that can, but is too much: a NUMBER of 5 digits or more, ");
        b.good("person 0001 0002 0003;duty 0004 0005;pace 0006;rings 0007;mends 9999;");
        b.fault("person 00001 2 3;", 2, 7);
        b.fault("person 1 00002 3;", 2, 9);
        b.fault("person 1 2 00003;", 2, 11);
        b.fault("duty 00004 5;", 2, 5);
        b.fault("duty 4 00005;", 2, 7);
        b.fault("pace 00006;", 2, 5);
        b.fault("rings 00007;", 2, 6);
        b.fault("mends 1+00007;", 2, 8);
        b.fault("rings (1*99999)", 2, 9);
        b.fault("rings " + times("0", 100), 2, 6);
        b.fault("rings " + times("9", 694), 2, 6);

        b.says("or (not in an EXPR) not as told, ");
        b.fault("mule 61 2 3;", 2, 5);
        b.fault("cook 1 61 3;", 2, 7);
        b.fault("mule 1 2 31;", 2, 9);
        b.fault("duty 9999 1;", 2, 5);
        b.fault("duty 1 9999;", 2, 7);
        b.fault("pace 0000;", 2, 5);
        b.fault("pace 0010;", 2, 5);
        b.good("rings 9999;mends 9999;");

        b.says("the first TOKEN of the 9th of PEOPLE, ");
        for (String kind : KINDS) {
            b.good(times("mule 1 2 3;", 7) + kind + " 1 2 3;duty 1 2;pace 1;");
            b.fault(times("mule 1 2 3;", 7) + "duty 1 2;" + kind + " 1 2 3;" + kind + " 1 2 3;", 2, 77 + 9 + kind.length() + 7);
            b.fault(times("mule 1 2 3;", 8) + kind, 2, 88);
            b.fault(times("mule 1 2 3;", 8) + " " + kind + "?", 2, 89);
        }
        b.fault(times("mule 1 2 3;", 8) + "persons", 1, 88);

        b.says("the 7th DUTY, ");
        b.good(times("duty 1 2;", 6) + "person 1 2 3;");
        b.fault(times("duty 1 2;", 6) + "person 1 2 3;duty 1 2;", 2, 67);
        b.fault(times("duty 1 2;", 6) + "duty", 2, 54);
        b.fault(times("duty 1 2;", 6) + "\nduty ?", 2, 55);
        b.fault(times("duty 1 2;", 6) + "duties", 1, 54);

        b.says("of an EXPR within 6 others (a NUMBER, any word, a parenthesis), ");
        deep();

        b.says("the seventh 'not' side by side; ");
        b.good("rings " + times("not ", 6) + "1;");
        b.fault("rings " + times("not ", 7) + "1;", 2, 30);
        b.fault("rings " + times("not ", 8) + "1;", 2, 30);
        b.fault("rings " + times("not ", 7), 2, 30);
        rings(times("not ", 6) + "5", 1);
        rings(times("not ", 5) + "5", 0);
        b.good("rings " + times("not ", 6) + "(" + times("not ", 6) + "1);");
        b.good("rings " + times("not ", 6) + "1 and " + times("not ", 6) + "1 or " + times("not ", 6) + "1;");
        b.fault("rings " + times("not ", 6) + "1 and " + times("not ", 7) + "1;", 2, 60);
        b.fault("mends (" + times("not\n", 7) + "1);", 2, 31);
    }

    private void deep() {
        for (String first : new String[] {"1", "late", "foo", "not", "and", "or", "person", "(", "12345"}) {
            b.fault("rings " + times("(", 6) + first, 2, 12);
            b.fault("mends " + times("(", 6) + " " + first, 2, 13);
        }
        for (String first : new String[] {")", "+", "-", "*", "/", "<", "=", ";", "?", ""}) {
            b.fault("rings " + times("(", 6) + first, 1, 12);
        }
        b.good("rings " + times("(", 5) + "1" + times(")", 5) + ";");
        b.good("rings " + times("(", 5) + "not late" + times(")", 5) + ";");
        b.fault("rings " + times("(", 6) + "1" + times(")", 6) + ";", 2, 12);
        b.good("rings " + times("(1)+", 20) + "1;");
        b.good("rings " + times("(((((1)))))+", 20) + "1;");
        b.fault("rings " + times("(((((1)))))+", 20) + times("(", 6) + "1", 2, 252);
        b.good("rings 1+(1+(1+(1+(1+(1+1)))));");
        b.fault("rings 1+(1+(1+(1+(1+(1+(1))))));", 2, 24);
        rings("1+(1+(1+(1+(1+(1+1)))))", 7);
        // as many open operators as can stand in one another
        rings(times("0 or 1 and 14=2+3*(", 5) + "0 or 1 and 14=2+3*4" + times(")", 5), 0);
        rings(times("0 or 1 and 5=2+3*(", 5) + "0 or 1 and 14=2+3*4" + times(")", 5), 1);
    }

    private void faultsOthers() {
        b.says("3 any word where a PART must stand that is no VALUE of this EXPR; ");
        for (String word : new String[] {"foo", "way", "and", "or", "person", "mule", "cook", "pace", "rings", "mends", "lat",
            "lates", "days", "x"}) {
            b.fault("rings " + word + ";", 3, 6);
            b.fault("rings 1+" + word, 3, 8);
            b.fault("rings (" + word, 3, 7);
            b.fault("rings not " + word, 3, 10);
        }
        for (String sign : new String[] {"+", "-", "*", "/", "<", "="}) {
            b.fault("rings 1" + sign + "not 1;", 3, 8);
        }
        for (String word : new String[] {"late", "habit", "haste", "rung", "duty", "day"}) {
            b.good("rings " + word + ";mends " + word + ";");
        }
        b.fault("mends 1;rings way;", 3, 14);
        b.fault("mends way;rings way;", 3, 16);
        b.fault("mends home;", 3, 6);
        b.fault("mends ways;", 3, 6);
        b.good("rings 1;mends way;");

        b.says("5 a second 'pace', 'rings', 'mends'.");
        b.fault("pace 2;pace 2;", 5, 7);
        b.fault("rings 1;rings 1;", 5, 8);
        b.fault("mends 1;mends 1;", 5, 8);
        b.fault("pace 2;person 1 2 3;\npace", 5, 21);
        b.fault("rings 0;mends 0;rings", 5, 16);
        b.fault("mends 0;rings 0;mends ?", 5, 16);
        b.good("pace 2;rings 1;mends 1;");
        b.good("mends 1;rings 1;pace 2;");
        b.town("pace 3;rings 1;mends 1;");
        // a second one of another text is the first one of that
        b.tell("pace 4;rings 2;mends 2;", 0);
        b.is("count(2)", 4);
        b.tell("pace 5;pace", 5);
        b.is("count(2)", 4);
        b.tell("pace 6;rings 2;mends 2;", 0);
        b.is("count(2)", 6);
    }
}
