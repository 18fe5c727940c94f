/** The bounds of part 1: THE TEXT, its ITEMS, FAULT. One method for each sentence. */
final class BoundsText {
    private static final int NO = Check.NO, FULL = Check.FULL, NONE = Check.NONE;
    private static final String ONE = "p0,0,0;";
    private static final String TWO = ONE + ONE;
    private static final String SIX = ONE.repeat(6);
    private static final String LOVES = "v0,1,20;".repeat(19);

    private BoundsText() {
    }

    static void all() {
        textOf200();
        itemsOneBehindTheOther();
        numbersOfOneOrTwoFigures();
        partedAndEnded();
        kindOfPerson();
        coins();
        strength();
        sixPersons();
        kindOfGood();
        owner();
        worth();
        heavy();
        eightGoods();
        loves();
        loveOf20();
        loveWithout();
        lastLove();
        tenths();
        tenthsWithout();
        lastTenths();
        fault();
        calls512();
    }

    private static void faults(int want, String... texts) {
        for (String text : texts) {
            Check.due("fault of " + text, want, Check.faultOf(text));
        }
    }

    // The same ITEMS behind two PERSONS: their place is 14.
    private static void faultsBehindTwo(String... items) {
        for (String item : items) {
            faults(14, TWO + item);
        }
    }

    private static void noFaultsBehindTwo(String... items) {
        for (String item : items) {
            faults(NONE, TWO + item);
        }
    }

    private static void textOf200() {
        Sentences.of("1 A TEXT is letters (200 at most),");
        String most = SIX + LOVES + "t1;t9;";
        DutyOnLeft x = new DutyOnLeft();
        Check.written(x, most);
        Check.due("letters", 200, x.count(10));
        Check.refused("the 201st", FULL, x, () -> x.write('t'));
        Check.refused("the 201st, of another kind", FULL, x, () -> x.write(';'));
        Check.due("fault of 200 letters", NONE, x.fault());
        Check.due("lay of 200 letters", 6, x.lay());
        Check.due("the last ITEM is read", 9, x.count(6));
        Check.due("still full", FULL, x.write('t'));
        Check.due("wipe", 200, x.wipe());
        Check.due("room again", 1, x.write('t'));
        faults(197, SIX + LOVES + "t1;t11");
        faults(198, "t1;".repeat(66) + "t1");
        faults(199, "t01;" + "t1;".repeat(65) + "t", "t01;" + "t1;".repeat(65) + " ");
        faults(0, " ".repeat(200), "p".repeat(200), "0".repeat(200), ";".repeat(200));
        faults(NONE, "");
    }

    private static void itemsOneBehindTheOther() {
        Sentences.of("ITEMS one behind the other, each a letter,");
        faults(NONE, "t1;", "t1;t2;t3;", ONE + "t1;" + ONE, TWO + "v0,1,1;t1;g0,0,1,0;" + ONE + "v2,0,1;");
        for (char letter = 32; letter <= 126; letter++) {
            if ("pgvt".indexOf(letter) < 0) {
                faults(0, letter + "", letter + ";", letter + "1;", letter + "0,0,0;", letter + "0,0,1,0;");
                faults(14, TWO + letter, TWO + letter + "1;", TWO + letter + "0,1,1;", TWO + letter + "0,0,1,0;");
            }
        }
        faults(3, "t1; t2;", "t1;;t2;", "t1;,t2;", "t1;1;", "t1;tt2;", "t1;t", "t1; ");
        faults(0, " t1;", "1;", "tt1;", "p", "g", "v", "t", "1t;");
    }

    private static void numbersOfOneOrTwoFigures() {
        Sentences.of("then numbers (one or two figures)");
        faults(NONE, "t1;", "t01;", "t20;", "p0,0,0;", "p00,00,00;", "p04,99,20;", TWO + "g03,01,01,00;v00,01,00;");
        faults(0, "t;", "t001;", "t010;", "p,0,0;", "p0,,0;", "p0,0,;", "p000,0,0;", "p0,000,0;", "p0,100,0;", "p0,0,000;");
        faults(0, "t/;", "t:;", "t1/;", "t1:;", "ta;", "t-1;", "t+1;", "t 1;", "t1 ;", "t1a;", "t1.;", "t1-;");
        faultsBehindTwo("g,0,1,0;", "g0,,1,0;", "g0,0,,0;", "g0,0,1,;", "g000,0,1,0;", "g0,000,1,0;", "g0,0,001,0;", "g0,0,1,000;");
        faultsBehindTwo("v,1,1;", "v0,,1;", "v0,1,;", "v000,1,1;", "v0,001,1;", "v0,1,001;");
        DutyOnLeft x = Check.laid("p04,09,00;p3,90,19;t07;");
        Check.due("04", 4, x.person(0, 0));
        Check.due("09", 9, x.person(0, 1));
        Check.due("00", 0, x.person(0, 2));
        Check.due("90", 90, x.person(1, 1));
        Check.due("19", 19, x.person(1, 2));
        Check.due("07", 7, x.count(6));
    }

    private static void partedAndEnded() {
        Sentences.of("parted by , and a ; behind the last one:");
        faults(0, "p0;0;0;", "p0.0.0;", "p0 0 0;", "p0;0,0;", "p0,0;0;", "p0,0,0,", "p0,0,0:", "p0,0,0", "p0,0,0 ;", "p0, 0,0;", "p 0,0,0;",
            "p0,,0,0;", "p0,0,", "p0,0", "p0,", "p0", "p0,0;", "p0;", "p;", "p0,0,0,0;", "t1,1;", "t1,", "t1", "t,;", "t1:");
        faultsBehindTwo("g0,0,1;", "g0,0,1,0,0;", "g0;0,1,0;", "g0,0;1,0;", "g0,0,1;0;", "g0,0,1,0,", "g0,0,1,0", "g0;");
        faultsBehindTwo("v0,1;", "v0,1,1,1;", "v0;1,1;", "v0,1;1;", "v0,1,1,", "v0,1,1", "v0;");
        noFaultsBehindTwo("g0,0,1,0;", "v0,1,1;", "t1;", ONE);
    }

    private static void kindOfPerson() {
        Sentences.of("pK,M,S a PERSON of KIND K (0 PLAIN, 1 SMUGGLER, 2 BRIDE, 3 GRANDMOTHER, 4 CHILD),");
        DutyOnLeft x = Check.laid("p0,0,0;p1,0,0;p2,0,0;p3,0,0;p4,0,0;");
        for (int i = 0; i < 5; i++) {
            Check.due("KIND " + i, i, x.person(i, 0));
        }
        faults(0, "p5,0,0;", "p6,0,0;", "p9,0,0;", "p10,0,0;", "p14,0,0;", "p99,0,0;");
    }

    private static void coins() {
        Sentences.of("with M (0 to 99) coins");
        DutyOnLeft x = Check.laid("p0,0,0;p0,1,0;p0,98,0;p0,99,0;");
        int[] wants = {0, 1, 98, 99};
        for (int i = 0; i < 4; i++) {
            Check.due("coins of " + i, wants[i], x.person(i, 1));
        }
        faults(0, "p0,100,0;");
    }

    private static void strength() {
        Sentences.of("and STRENGTH S (0 to 20);");
        DutyOnLeft x = Check.laid("p0,0,0;p0,0,1;p0,0,19;p0,0,20;");
        int[] wants = {0, 1, 19, 20};
        for (int i = 0; i < 4; i++) {
            Check.due("STRENGTH of " + i, wants[i], x.person(i, 2));
        }
        faults(0, "p0,0,21;", "p0,0,22;", "p0,0,30;", "p0,0,99;");
    }

    private static void sixPersons() {
        Sentences.of("6 at most, 0, 1, ..");
        DutyOnLeft x = Check.laid("p0,11,0;p0,12,0;p0,13,0;p0,14,0;p0,15,0;p0,16,0;");
        Check.due("persons", 6, x.count(0));
        for (int i = 0; i < 6; i++) {
            Check.due("the one told as " + i, 11 + i, x.person(i, 1));
        }
        faults(42, SIX + ONE, SIX + ONE + "t1;", SIX + "p5,0,0;");
        faults(45, SIX + "t1;" + ONE);
        faults(NONE, SIX);
        DutyOnLeft y = new DutyOnLeft();
        Check.written(y, SIX + ONE);
        Check.refused("lay of seven", NO, y, y::lay);
    }

    private static void kindOfGood() {
        Sentences.of("gK,P,W,H a GOOD of KIND K (0 CHATTEL, 1 DEBT, 2 GRAVE, 3 HOUSE)");
        DutyOnLeft x = Check.laid(ONE + "g0,0,1,0;g1,0,1,0;g2,0,1,0;g3,0,1,0;");
        for (int g = 0; g < 4; g++) {
            Check.due("KIND " + g, g, x.good(g, 0));
        }
        faultsBehindTwo("g4,0,1,0;", "g5,0,1,0;", "g9,0,1,0;", "g10,0,1,0;", "g13,0,1,0;", "g99,0,1,0;");
    }

    private static void owner() {
        Sentences.of("of PERSON P (told ahead),");
        DutyOnLeft x = Check.laid(ONE + "g0,0,1,0;" + ONE + "g0,1,1,0;g0,0,1,0;");
        int[] wants = {0, 1, 0};
        for (int g = 0; g < 3; g++) {
            Check.due("owner of " + g, wants[g], x.good(g, 1));
        }
        faultsBehindTwo("g0,2,1,0;", "g0,3,1,0;", "g0,10,1,0;", "g0,99,1,0;");
        faults(0, "g0,0,1,0;" + ONE, "g0,1,1,0;" + TWO);
        faults(7, ONE + "g0,1,1,0;" + ONE);
        faults(NONE, SIX + "g0,5,1,0;");
        faults(42, SIX + "g0,6,1,0;");
    }

    private static void worth() {
        Sentences.of("worth W (1 to 40),");
        DutyOnLeft x = Check.laid(ONE + "g0,0,1,0;g1,0,2,0;g2,0,39,0;g3,0,40,0;");
        int[] wants = {1, 2, 39, 40};
        for (int g = 0; g < 4; g++) {
            Check.due("worth of " + g, wants[g], x.good(g, 2));
        }
        faultsBehindTwo("g0,0,0,0;", "g0,0,00,0;", "g1,0,0,0;", "g2,0,0,0;", "g3,0,0,0;", "g0,0,41,0;", "g1,0,41,0;", "g2,0,41,0;", "g3,0,41,0;",
            "g0,0,50,0;", "g0,0,99,0;");
    }

    private static void heavy() {
        Sentences.of("H (0 to 20) heavy;");
        DutyOnLeft x = Check.laid(ONE + "g0,0,1,0;g0,0,1,1;g0,0,1,19;g0,0,1,20;");
        int[] wants = {0, 1, 19, 20};
        for (int g = 0; g < 4; g++) {
            Check.due("how heavy is " + g, wants[g], x.good(g, 3));
        }
        faultsBehindTwo("g0,0,1,21;", "g0,0,1,22;", "g1,0,1,21;", "g2,0,1,21;", "g3,0,1,21;", "g0,0,1,30;", "g0,0,1,99;");
    }

    private static void eightGoods() {
        Sentences.of("8 at most, 0, 1, ..");
        StringBuilder text = new StringBuilder(ONE);
        for (int g = 0; g < 8; g++) {
            text.append("g0,0,").append(31 + g).append(",0;");
        }
        DutyOnLeft x = Check.laid(text.toString());
        Check.due("goods", 8, x.count(1));
        for (int g = 0; g < 8; g++) {
            Check.due("the one told as " + g, 31 + g, x.good(g, 2));
        }
        faults(87, text + "g0,0,1,0;", text + "g0,0,1,0;t1;", text + "g9,0,1,0;");
        faults(94, text + ONE + "g0,1,1,0;");
        DutyOnLeft y = new DutyOnLeft();
        Check.written(y, text + "g0,0,1,0;");
        Check.refused("lay of nine", NO, y, y::lay);
    }

    private static void loves() {
        Sentences.of("vI,J,V PERSON I LOVES J (unlike, both told ahead)");
        DutyOnLeft x = Check.laid(SIX + "v0,1,5;v5,0,7;v0,5,8;v4,5,9;");
        Check.due("0 LOVES 1", 5, x.love(0, 1));
        Check.due("1 does not LOVE 0 for that", 0, x.love(1, 0));
        Check.due("5 LOVES 0", 7, x.love(5, 0));
        Check.due("0 LOVES 5", 8, x.love(0, 5));
        Check.due("4 LOVES 5", 9, x.love(4, 5));
        faultsBehindTwo("v0,0,1;", "v1,1,1;", "v0,0,0;", "v0,2,1;", "v2,0,1;", "v2,2,1;", "v2,3,1;", "v99,0,1;", "v0,99,1;", "v1,2,0;");
        faults(7, ONE + "v0,1,1;" + ONE, ONE + "v1,0,1;" + ONE, ONE + "v0,0,1;");
        faults(0, "v0,1,1;" + TWO);
        faults(42, SIX + "v0,6,1;", SIX + "v6,0,1;", SIX + "v5,5,1;");
    }

    private static void loveOf20() {
        Sentences.of("by V (0 to 20;");
        DutyOnLeft x = Check.laid(ONE + TWO + "v0,1,0;v1,0,20;v0,2,1;v2,0,19;");
        Check.due("0", 0, x.love(0, 1));
        Check.due("20", 20, x.love(1, 0));
        Check.due("1", 1, x.love(0, 2));
        Check.due("19", 19, x.love(2, 0));
        faultsBehindTwo("v0,1,21;", "v1,0,21;", "v0,1,22;", "v0,1,30;", "v0,1,99;");
    }

    private static void loveWithout() {
        Sentences.of("; 0 without;");
        DutyOnLeft x = Check.laid(SIX);
        DutyOnLeft y = Check.laid(SIX + "v0,1,20;v2,5,20;");
        for (int i = 0; i < 6; i++) {
            for (int j = 0; j < 6; j++) {
                boolean told = i == 0 && j == 1 || i == 2 && j == 5;
                Check.due("love(" + i + ", " + j + ") without any", i == j ? Check.BAD : 0, x.love(i, j));
                Check.due("love(" + i + ", " + j + ")", i == j ? Check.BAD : told ? 20 : 0, y.love(i, j));
            }
        }
        Check.written(y, SIX);
        Check.due("lay", 6, y.lay());
        Check.due("of the TEXT laid last", 0, y.love(0, 1));
        Check.due("of the TEXT laid last", 0, y.love(2, 5));
    }

    private static void lastLove() {
        Sentences.of("the last one of each two)");
        DutyOnLeft x = Check.laid(TWO + ONE + "v0,1,5;v1,0,7;v0,2,6;v0,1,9;v0,1,3;v1,2,8;v1,2,0;");
        Check.due("the third of three", 3, x.love(0, 1));
        Check.due("the other way", 7, x.love(1, 0));
        Check.due("another two", 6, x.love(0, 2));
        Check.due("0 behind 8", 0, x.love(1, 2));
        faults(22, TWO + "v0,1,20;v0,1,21;");
    }

    private static void tenths() {
        Sentences.of("tT duty is T (1 to 20) tenths");
        int[] all = {1, 2, 9, 10, 11, 19, 20};
        for (int t : all) {
            DutyOnLeft x = Check.laid("p0,0,0;g0,0,10,0;t" + t + ";");
            Check.due("T", t, x.count(6));
            Check.due("of 10", t, x.owes(0));
        }
        faults(0, "t0;", "t00;", "t21;", "t22;", "t30;", "t99;");
        faultsBehindTwo("t0;", "t21;");
    }

    private static void tenthsWithout() {
        Sentences.of("(10 without;");
        DutyOnLeft x = Check.laid("p0,0,0;g0,0,37,0;");
        Check.due("T", 10, x.count(6));
        Check.due("of 37", 37, x.owes(0));
        DutyOnLeft y = Check.laid(ONE + "t5;");
        Check.due("T told", 5, y.count(6));
        Check.written(y, ONE);
        Check.due("lay", 1, y.lay());
        Check.due("T of the TEXT laid last", 10, y.count(6));
    }

    private static void lastTenths() {
        Sentences.of("of several such the last one counts)");
        Check.due("the greater one", 12, Check.laid("t3;" + ONE + "t12;").count(6));
        Check.due("the smaller one", 3, Check.laid(ONE + "t12;t7;t3;").count(6));
        Check.due("ahead of all PERSONS", 4, Check.laid("t12;t4;" + ONE).count(6));
        faults(3, "t3;t0;", "t3;t21;t4;");
    }

    private static void fault() {
        Sentences.of("FAULT: the place of the first letter of the first ITEM that is not so.");
        faults(0, "x", "t0;" + ONE, "p0,0,21;", "p0,0,0");
        faults(7, ONE + "p0,0,21;" + ONE, ONE + "p9,9,99;", ONE + "t1,1;", ONE + "t", ONE + "?" + ONE);
        faults(3, "t1;t0;t0;", "t1;g0,0,1,0;" + ONE + "t0;");
        faults(14, TWO + "g0,0,1,21;v0,0,1;");
        faults(8, "p0,99,0;g0,1,1,0;p5,0,0;");
        faults(NONE, "", "t1;", TWO);
    }

    private static void calls512() {
        Sentences.of("An object is used for at most 512 calls after it has been made; what later calls answer is free.");
        DutyOnLeft x = new DutyOnLeft();
        for (int k = 0; k < 511; k++) {
            boolean on = k % 2 == 0;
            Check.due("call " + k, on ? 8 : 0, x.pack(0, on));
        }
        Check.due("the 512th call", 8, x.count(8));
        DutyOnLeft y = new DutyOnLeft();
        for (int k = 0; k < 255; k++) {
            Check.due("call " + 2 * k, 1, y.keep());
            Check.due("call " + (2 * k + 1), 0, y.back());
        }
        Check.due("the 511th call", NO, y.back());
        Check.due("the 512th call", 1, y.keep());
    }
}
