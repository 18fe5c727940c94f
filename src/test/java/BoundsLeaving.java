/** The bounds of LAID and of part 2: PACKED, LEFT, what is owed, LEAVING, COMING BACK, UNDONE. One method for each sentence. */
final class BoundsLeaving {
    private static final int NO = Check.NO, NONE = Check.NONE;
    private static final String BIG = "g2,0,40,0;".repeat(8);

    private BoundsLeaving() {
    }

    static void all() {
        laid();
        atFirst();
        hereOrGone();
        asLongAsHisStrength();
        graveCanNot();
        left();
        chattel();
        debt();
        grave();
        house();
        lovesWhoIsHere();
        zeroAtLeast();
        byTenCut();
        halfAndThirdPart();
        leaving();
        leftIsNobodys();
        hasNotTheCoins();
        grandmotherAlone();
        together();
        bothOrNeither();
        comingBack();
        brideOnceMore();
        notThat();
        brideHasNotThat();
        unpacked();
        givenToAnotherHere();
        gravesToo();
        latest();
        lastEight();
    }

    private static int owed(String text) {
        return Check.laid(text).owes(0);
    }

    private static void laid() {
        Sentences.of("LAID is a TEXT without FAULT, of a PERSON at least (NO else;");
        String[] none = {"", "t5;", "t5;t6;", "p0,0,0", "p0,0,0;t", "p0,0,0; ", "p0,0,0;t0;", "x", "p0,0,0;g0,1,1,0;", "p0,0,0;v0,0,1;"};
        for (String text : none) {
            DutyOnLeft x = new DutyOnLeft();
            x.pack(0, true);
            x.swear(0, 3);
            x.keep();
            Check.written(x, text);
            Check.refused("lay of " + text, NO, x, x::lay);
        }
        DutyOnLeft x = new DutyOnLeft();
        Check.written(x, "p0,0,0;");
        Check.due("lay of one", 1, x.lay());
        Check.due("one", 1, x.count(0));
        Check.written(x, "p0,0,0;".repeat(6));
        Check.due("lay of six", 6, x.lay());
        Check.written(x, "t5;p0,0,0;");
        Check.due("lay of one behind t", 1, x.lay());
    }

    private static void atFirst() {
        Sentences.of("at first " + Model.FIRST + ").");
        DutyOnLeft x = new DutyOnLeft();
        DutyOnLeft y = Check.laid(Model.FIRST);
        Check.same("persons and goods", Check.standing(y), Check.standing(x));
        for (int k = 0; k < 10; k++) {
            Check.due("count(" + k + ")", y.count(k), x.count(k));
        }
        int[][] loves = {{0, 1, 8}, {1, 0, 6}, {2, 3, 10}, {3, 2, 9}, {4, 0, 5}, {0, 4, 5}, {0, 2, 0}, {4, 1, 0}, {3, 0, 0}};
        for (int[] love : loves) {
            Check.due("love(" + love[0] + ", " + love[1] + ")", love[2], x.love(love[0], love[1]));
        }
        Check.due("T", 8, x.count(6));
        Check.due("coins", 60, x.person(0, 1));
        Check.due("worth", 40, x.good(4, 2));
    }

    private static void hereOrGone() {
        Sentences.of("2 A PERSON is HERE, or GONE.");
        DutyOnLeft x = Check.laid("p0,0,0;p0,0,0;");
        Check.due("HERE", 1, x.person(0, 3));
        Check.due("leave", 0, x.leave(0));
        Check.due("GONE", 0, x.person(0, 3));
        Check.due("GONE, one", 1, x.count(2));
        Check.due("the other one is HERE", 1, x.person(1, 3));
        x.leave(1);
        Check.due("GONE, all", 2, x.count(2));
        x.comeBack(0);
        Check.due("HERE again", 1, x.person(0, 3));
        Check.due("GONE, one", 1, x.count(2));
    }

    private static void asLongAsHisStrength() {
        Sentences.of("A GOOD can be PACKED by its owner, as long as all that he has PACKED is no heavier than his STRENGTH;");
        DutyOnLeft x = Check.laid("p0,0,10;p0,0,0;g0,0,1,10;g0,0,1,11;g1,0,1,1;g0,0,1,0;g0,0,1,9;g0,1,1,0;g0,1,1,1;");
        Check.refused("one more than he can", NO, x, () -> x.pack(1, true));
        Check.due("as heavy as he can", 10, x.pack(0, true));
        Check.refused("1 more on top, of a DEBT", NO, x, () -> x.pack(2, true));
        Check.due("0 on top", 10, x.pack(3, true));
        Check.due("unpacked", 0, x.pack(0, false));
        Check.due("9", 9, x.pack(4, true));
        Check.due("and 1", 10, x.pack(2, true));
        Check.refused("and 10", NO, x, () -> x.pack(0, true));
        Check.due("no STRENGTH, nothing heavy", 0, x.pack(5, true));
        Check.refused("no STRENGTH, 1 heavy", NO, x, () -> x.pack(6, true));
        DutyOnLeft y = Check.laid("p0,0,20;" + "g0,0,1,20;g0,0,1,20;" + "g0,0,1,0;".repeat(6));
        Check.due("20 of 20", 20, y.pack(0, true));
        Check.refused("40 of 20", NO, y, () -> y.pack(1, true));
        for (int g = 2; g < 8; g++) {
            Check.due("0 more", 20, y.pack(g, true));
        }
        DutyOnLeft z = Check.laid("p0,0,20;p0,0,20;g0,0,1,20;g0,1,1,20;");
        z.pack(0, true);
        Check.due("what another one has PACKED is not his", 20, z.pack(1, true));
        z.give(0, 1);
        Check.refused("GIVEN it is the new owner's to carry", NO, z, () -> z.pack(0, true));
    }

    private static void graveCanNot() {
        Sentences.of("a GRAVE can not.");
        DutyOnLeft x = Check.laid("p0,0,20;p0,0,20;g2,0,1,0;g2,1,40,20;g0,0,1,0;");
        Check.refused("a GRAVE not heavy at all", NO, x, () -> x.pack(0, true));
        Check.refused("a heavy GRAVE", NO, x, () -> x.pack(1, true));
        x.give(0, 1);
        Check.refused("a GRAVE that was GIVEN", NO, x, () -> x.pack(0, true));
        Check.refused("a GRAVE is never unpacked", NO, x, () -> x.pack(0, false));
        Check.due("a CHATTEL can", 0, x.pack(2, true));
    }

    private static void left() {
        Sentences.of("LEFT by a PERSON are those of his GOODS that are not PACKED:");
        DutyOnLeft x = Check.laid("p0,99,9;p0,99,9;g0,0,10,1;g0,0,20,1;g0,1,30,1;");
        Check.due("both", 30, x.owes(0));
        x.pack(1, true);
        Check.due("without what is PACKED", 10, x.owes(0));
        x.pack(0, true);
        Check.due("all PACKED", 0, x.owes(0));
        x.give(1, 1);
        Check.due("not his", 0, x.owes(0));
        Check.due("the other one's", 50, x.owes(1));
        x.leave(1);
        Check.due("nobody's is not his", 0, x.owes(0));
    }

    private static void chattel() {
        Sentences.of("a CHATTEL counts its worth,");
        Check.due("1", 1, owed("p0,0,0;g0,0,1,0;"));
        Check.due("40", 40, owed("p0,0,0;g0,0,40,20;"));
        Check.due("eight of 40", 320, owed("p0,0,0;" + "g0,0,40,0;".repeat(8)));
    }

    private static void debt() {
        Sentences.of("a DEBT as much less,");
        Check.due("10 less 1", 9, owed("p0,0,0;g0,0,10,0;g1,0,1,0;"));
        Check.due("40 less 40", 0, owed("p0,0,0;g0,0,40,0;g1,0,40,0;"));
        Check.due("40 less 39", 1, owed("p0,0,0;g1,0,39,0;g0,0,40,0;"));
        Check.due("love less a DEBT", 5, owed("p0,0,0;p0,0,0;v0,1,12;g1,0,7,0;"));
    }

    private static void grave() {
        Sentences.of("a GRAVE 3 times that,");
        Check.due("1", 3, owed("p0,0,0;g2,0,1,0;"));
        Check.due("40", 120, owed("p0,0,0;g2,0,40,0;"));
        Check.due("eight of 40", 960, owed("p0,0,0;" + BIG));
        Check.due("three times the worth, not three times less", 1, owed("p0,0,0;g2,0,1,0;g1,0,2,0;"));
    }

    private static void house() {
        Sentences.of("a HOUSE half of that, cut;");
        Check.due("1", 0, owed("p0,0,0;g3,0,1,0;"));
        Check.due("2", 1, owed("p0,0,0;g3,0,2,0;"));
        Check.due("3", 1, owed("p0,0,0;g3,0,3,0;"));
        Check.due("39", 19, owed("p0,0,0;g3,0,39,0;"));
        Check.due("40", 20, owed("p0,0,0;g3,0,40,0;"));
        Check.due("each one cut ahead of being added", 2, owed("p0,0,0;g3,0,3,0;g3,0,3,0;"));
        Check.due("cut ahead of the tenths", 2, owed("p0,0,0;g3,0,3,0;t20;"));
    }

    private static void lovesWhoIsHere() {
        Sentences.of("and by how much he LOVES each other PERSON that is HERE.");
        DutyOnLeft x = Check.laid("p0,99,0;".repeat(6) + "v0,1,1;v0,2,2;v0,3,4;v0,4,8;v0,5,16;v1,0,20;");
        Check.due("five", 31, x.owes(0));
        Check.due("not what others LOVE", 20, x.owes(1));
        Check.due("LOVES none", 0, x.owes(2));
        x.leave(5);
        Check.due("four HERE", 15, x.owes(0));
        x.leave(1);
        Check.due("three HERE", 14, x.owes(0));
        x.comeBack(5);
        Check.due("who came back counts", 30, x.owes(0));
        Check.due("five of 20", 100, owed("p0,0,0;".repeat(6) + "v0,1,20;v0,2,20;v0,3,20;v0,4,20;v0,5,20;"));
    }

    private static void zeroAtLeast() {
        Sentences.of("What he owes: all that LEFT together (0 at least),");
        Check.due("nothing", 0, owed("p0,0,0;"));
        Check.due("a DEBT alone", 0, owed("p0,0,0;g1,0,1,0;"));
        Check.due("eight DEBTS", 0, owed("p0,0,0;" + "g1,0,40,0;".repeat(8) + "t20;"));
        Check.due("1 under 0", 0, owed("p0,0,0;g0,0,39,0;g1,0,40,0;t20;"));
        Check.due("0", 0, owed("p0,0,0;g0,0,40,0;g1,0,40,0;t20;"));
        Check.due("1 above 0", 2, owed("p0,0,0;g0,0,40,0;g1,0,39,0;t20;"));
        Check.due("love is of all that together", 0, owed("p0,0,0;p0,0,0;v0,1,20;g1,0,30,0;"));
        Check.due("of a CHILD under 0", 0, owed("p4,0,0;g1,0,40,0;"));
        Check.due("of a SMUGGLER under 0", 0, owed("p1,0,0;g1,0,1,0;"));
        DutyOnLeft x = Check.laid("p0,0,0;g1,0,40,0;");
        Check.due("he pays nothing", 0, x.leave(0));
        Check.due("and gets nothing", 0, x.person(0, 1));
    }

    private static void byTenCut() {
        Sentences.of("times the tenths of duty, by ten, cut;");
        int[][] rows = {{9, 1, 0}, {10, 1, 1}, {19, 1, 1}, {20, 1, 2}, {1, 9, 0}, {1, 10, 1}, {1, 11, 1}, {1, 19, 1}, {1, 20, 2}, {39, 20, 78}, {7, 7, 4}, {7, 9, 6}};
        for (int[] row : rows) {
            Check.due(row[0] + " at " + row[1] + " tenths", row[2], owed("p0,0,0;g0,0," + row[0] + ",0;t" + row[1] + ";"));
        }
        Check.due("together, then cut", 1, owed("p0,0,0;g0,0,5,0;g0,0,5,0;t1;"));
        Check.due("with love, then cut", 1, owed("p0,0,0;p0,0,0;g0,0,5,0;v0,1,5;t1;"));
        Check.due("the most of all", 2120, owed("p0,0,0;".repeat(6) + BIG + "v0,1,20;v0,2,20;v0,3,20;v0,4,20;v0,5,20;t20;"));
    }

    private static void halfAndThirdPart() {
        Sentences.of("then of that a SMUGGLER, a BRIDE half, a CHILD the third part, cut.");
        int[][] rows = {{0, 5, 5}, {1, 5, 2}, {1, 4, 2}, {1, 1, 0}, {2, 5, 2}, {2, 4, 2}, {2, 1, 0}, {3, 5, 5}, {4, 5, 1}, {4, 6, 2}, {4, 2, 0}, {4, 3, 1}};
        for (int[] row : rows) {
            Check.due("KIND " + row[0] + " of " + row[1], row[2], owed("p" + row[0] + ",0,0;g0,0," + row[1] + ",0;"));
        }
        Check.due("a SMUGGLER, by ten ahead of half", 2, owed("p1,0,0;g0,0,7,0;t6;"));
        Check.due("a BRIDE, by ten ahead of half", 3, owed("p2,0,0;g0,0,3,0;t20;"));
        Check.due("a CHILD, by ten ahead of the third part", 1, owed("p4,0,0;g0,0,5,0;t7;"));
        Check.due("a CHILD, all together ahead of the third part", 3, owed("p4,0,0;g0,0,5,0;g0,0,5,0;"));
    }

    private static void leaving() {
        Sentences.of("LEAVING: he pays what he owes, and is GONE with what he PACKED;");
        DutyOnLeft x = Check.laid("p0,50,9;p0,50,9;g0,0,10,5;g0,0,20,4;g1,0,3,0;g0,1,5,1;v0,1,4;");
        x.pack(0, true);
        x.pack(1, true);
        x.pack(1, false);
        Check.due("leave", 21, x.leave(0));
        Check.due("coins", 29, x.person(0, 1));
        Check.due("paid", 21, x.person(0, 4));
        Check.due("GONE", 0, x.person(0, 3));
        Check.due("what he PACKED is his", 0, x.good(0, 1));
        Check.due("and PACKED", 1, x.good(0, 4));
        Check.due("coins of the other one", 50, x.person(1, 1));
        Check.due("GOOD of the other one", 1, x.good(3, 1));
    }

    private static void leftIsNobodys() {
        Sentences.of("what he LEFT is nobody's from then on.");
        DutyOnLeft x = Check.laid("p0,99,9;p0,99,9;g0,0,10,1;g1,0,9,1;g2,0,1,1;g3,0,10,1;g0,0,1,1;g0,1,1,1;");
        x.pack(4, true);
        Check.due("leave", 9, x.leave(0));
        int[] owners = {NONE, NONE, NONE, NONE, 0, 1};
        for (int g = 0; g < 6; g++) {
            Check.due("owner of " + g, owners[g], x.good(g, 1));
        }
        Check.due("nobody's", 4, x.count(4));
        x.comeBack(0);
        Check.due("from then on: when he is back, too", NONE, x.good(0, 1));
        Check.due("he owes nothing for it", 0, x.owes(0));
        Check.refused("he can not pack it", NO, x, () -> x.pack(0, true));
        Check.refused("nor give it", NO, x, () -> x.give(0, 1));
        Check.refused("nor can it be GIVEN to him", NO, x, () -> x.give(0, 0));
        x.pack(4, false);
        x.leave(0);
        Check.due("what he took along and LEFT later, too", NONE, x.good(4, 1));
        Check.due("nobody's", 5, x.count(4));
    }

    private static void hasNotTheCoins() {
        Sentences.of("He can not, if he has not the coins,");
        DutyOnLeft x = Check.laid("p0,10,0;p0,9,0;p0,11,0;g0,0,10,0;g0,1,10,0;g0,2,10,0;");
        Check.refused("one coin short", NO, x, () -> x.leave(1));
        Check.due("all his coins", 10, x.leave(0));
        Check.due("none left", 0, x.person(0, 1));
        Check.due("one more than he owes", 10, x.leave(2));
        Check.due("one left", 1, x.person(2, 1));
        DutyOnLeft y = Check.laid("p0,0,0;p0,0,0;g0,0,1,0;");
        Check.refused("no coins, owes 1", NO, y, () -> y.leave(0));
        Check.due("no coins, owes nothing", 0, y.leave(1));
        DutyOnLeft z = Check.laid("p0,99,9;p0,99,0;g2,0,40,0;g0,0,20,9;v0,1,10;");
        Check.refused("99 are not enough", NO, z, () -> z.leave(0));
        z.give(0, 1);
        z.pack(1, true);
        Check.due("once GIVEN and PACKED, they are", 10, z.leave(0));
        DutyOnLeft w = Check.laid("p0,20,0;p0,20,0;p0,20,0;v0,1,12;");
        w.leave(0);
        w.comeBack(0);
        Check.due("coins left", 8, w.person(0, 1));
        Check.refused("what was paid is not had again", NO, w, () -> w.leave(0));
    }

    private static void grandmotherAlone() {
        Sentences.of("or a GRANDMOTHER would be the only one HERE then.");
        DutyOnLeft x = Check.laid("p3,0,0;p0,0,0;");
        Check.refused("she alone behind him", NO, x, () -> x.leave(1));
        Check.due("he alone behind her", 0, x.leave(0));
        Check.due("nobody behind him", 0, x.leave(1));
        DutyOnLeft y = Check.laid("p3,0,0;p3,0,0;p4,0,0;");
        Check.due("two of them behind", 0, y.leave(2));
        Check.refused("one of two behind", NO, y, () -> y.leave(0));
        Check.refused("the other one of two behind", NO, y, () -> y.leave(1));
        Check.due("both together, nobody behind", 0, y.leaveBoth(0, 1));
        DutyOnLeft z = Check.laid("p3,0,0;");
        Check.due("she is the only one, and leaves", 0, z.leave(0));
        for (int kind = 0; kind < 5; kind++) {
            DutyOnLeft w = Check.laid("p" + kind + ",0,0;p0,0,0;");
            Check.due("KIND " + kind + " alone behind", kind == 3 ? NO : 0, w.leave(1));
        }
        DutyOnLeft v = Check.laid("p0,0,0;".repeat(5) + "p3,0,0;");
        for (int i = 0; i < 4; i++) {
            Check.due("others are HERE", 0, v.leave(i));
        }
        Check.refused("the last one of the others", NO, v, () -> v.leave(4));
        v.comeBack(0);
        Check.due("one of the others is HERE again", 0, v.leave(4));
    }

    private static void together() {
        Sentences.of("Two LEAVE TOGETHER: what each LOVES the other one counts half, cut, for what he owes;");
        int[][] rows = {{0, 0}, {1, 0}, {2, 1}, {3, 1}, {19, 9}, {20, 10}};
        for (int[] row : rows) {
            DutyOnLeft x = Check.laid("p0,99,0;p0,99,0;p0,0,0;g0,0,10,0;v0,1," + row[0] + ";v1,0,7;v0,2,5;v2,0,20;v1,2,3;");
            Check.due("LOVES by " + row[0], 15 + row[1], x.owesWith(0, 1));
            Check.due("both", 15 + row[1] + 6, x.leaveBoth(0, 1));
            Check.due("the one paid", 15 + row[1], x.person(0, 4));
            Check.due("the other one paid", 6, x.person(1, 4));
        }
        DutyOnLeft y = Check.laid("p0,99,0;p0,99,0;p0,99,0;v0,1,7;v0,2,7;v1,2,7;v2,1,9;");
        Check.due("only the love of those two is halved", 10 + 7, y.leaveBoth(0, 1));
        DutyOnLeft z = Check.laid("p0,99,0;p0,99,0;v0,1,5;g1,0,3,0;t20;");
        Check.due("halved ahead of the DEBT, the tenths", 0, z.leaveBoth(1, 0));
    }

    private static void bothOrNeither() {
        Sentences.of("both can, or neither does.");
        DutyOnLeft x = Check.laid("p0,9,0;p0,10,0;p0,0,0;p0,0,0;g0,0,10,0;g0,1,10,0;g0,2,1,0;");
        Check.refused("the one has not the coins", NO, x, () -> x.leaveBoth(0, 1));
        Check.refused("nor as the second", NO, x, () -> x.leaveBoth(1, 0));
        Check.refused("neither has the coins", NO, x, () -> x.leaveBoth(0, 2));
        DutyOnLeft y = Check.laid("p0,10,0;p0,10,0;g0,0,10,0;g0,1,10,0;");
        Check.due("both have just the coins", 20, y.leaveBoth(0, 1));
        DutyOnLeft z = Check.laid("p0,99,0;p3,99,0;p0,99,0;p0,99,0;");
        Check.due("two behind, one a GRANDMOTHER", 0, z.leaveBoth(0, 2));
        z.comeBack(0);
        Check.refused("a GRANDMOTHER alone behind both", NO, z, () -> z.leaveBoth(0, 3));
        Check.due("with the GRANDMOTHER", 0, z.leaveBoth(1, 0));
        Check.due("one behind", 1, z.person(3, 3));
        DutyOnLeft w = Check.laid("p3,0,0;p0,0,0;");
        Check.due("nobody behind", 0, w.leaveBoth(1, 0));
        for (int she = 0; she < 3; she++) {
            DutyOnLeft v = Check.laid("p0,0,0;".repeat(she) + "p3,0,0;" + "p0,0,0;".repeat(2 - she));
            int i = she == 0 ? 1 : 0;
            int j = 3 - she - i;
            Check.refused("GRANDMOTHER " + she + " alone behind two", NO, v, () -> v.leaveBoth(i, j));
            Check.refused("GRANDMOTHER " + she + " alone behind two", NO, v, () -> v.leaveBoth(j, i));
        }
    }

    private static void comingBack() {
        Sentences.of("COMING BACK with what he PACKED costs nothing,");
        for (int kind = 0; kind < 5; kind++) {
            DutyOnLeft x = Check.laid("p" + kind + ",50,9;p0,0,0;g0,0,12,0;g0,0,30,9;");
            x.pack(1, true);
            int paid = x.leave(0);
            Check.due("KIND " + kind + " comes back", kind == 2 ? 6 : 0, x.comeBack(0));
            Check.due("coins", kind == 2 ? 38 : 50 - paid, x.person(0, 1));
            Check.due("HERE", 1, x.person(0, 3));
            Check.due("what he PACKED is his", 0, x.good(1, 1));
            Check.due("and PACKED", 1, x.good(1, 4));
        }
        DutyOnLeft y = Check.laid("p0,10,0;p3,0,0;g0,0,10,0;");
        y.leaveBoth(0, 1);
        Check.due("without a coin", 0, y.comeBack(0));
        DutyOnLeft z = Check.laid("p3,0,0;p0,0,0;");
        z.leaveBoth(0, 1);
        Check.due("a GRANDMOTHER, the only one HERE then", 0, z.comeBack(0));
    }

    private static void brideOnceMore() {
        Sentences.of("but for a BRIDE, who pays once more what she paid when she left last");
        DutyOnLeft x = Check.laid("p2,99,20;p0,0,0;g0,0,20,1;g0,0,30,1;g0,0,8,1;");
        x.pack(1, true);
        x.pack(2, true);
        Check.due("leaves 20", 10, x.leave(0));
        Check.due("pays 10 again", 10, x.comeBack(0));
        x.pack(1, false);
        Check.due("leaves 30", 15, x.leave(0));
        Check.due("pays 15, not 10, not 25", 15, x.comeBack(0));
        Check.due("leaves nothing", 0, x.leave(0));
        Check.due("pays nothing", 0, x.comeBack(0));
        Check.due("paid in all", 50, x.person(0, 4));
        Check.due("coins", 49, x.person(0, 1));
        DutyOnLeft y = Check.laid("p2,99,0;p0,0,0;v0,1,9;");
        Check.due("leaves TOGETHER", 2, y.leaveBoth(0, 1));
        Check.due("pays that", 2, y.comeBack(0));
        DutyOnLeft z = Check.laid("p2,99,0;p2,99,0;g0,0,20,0;g0,1,30,0;");
        z.leave(0);
        z.leave(1);
        Check.due("each what she paid herself", 10, z.comeBack(0));
        Check.due("each what she paid herself", 15, z.comeBack(1));
    }

    private static void notThat() {
        Sentences.of("(what she pays so is not that;");
        DutyOnLeft x = Check.laid("p2,60,0;p0,99,0;g0,0,20,0;v0,1,8;");
        Check.due("leaves", 14, x.leave(0));
        Check.due("pays for coming back", 14, x.comeBack(0));
        Check.due("leaves", 4, x.leave(0));
        Check.due("pays what she left for, not what she came back for", 4, x.comeBack(0));
        x.leave(1);
        Check.due("leaves for nothing", 0, x.leave(0));
        Check.due("comes back for nothing", 0, x.comeBack(0));
    }

    private static void brideHasNotThat() {
        Sentences.of("if she has not that, she can not).");
        DutyOnLeft x = Check.laid("p2,19,0;p0,0,0;g0,0,20,0;");
        Check.due("leaves", 10, x.leave(0));
        Check.refused("9 are one coin short", NO, x, () -> x.comeBack(0));
        DutyOnLeft y = Check.laid("p2,20,0;p0,0,0;g0,0,20,0;");
        Check.due("leaves", 10, y.leave(0));
        Check.due("10 are enough", 10, y.comeBack(0));
        Check.due("none left", 0, y.person(0, 1));
        Check.due("leaves for nothing", 0, y.leave(0));
        Check.due("needs no coins then", 0, y.comeBack(0));
    }

    private static void unpacked() {
        Sentences.of("A GOOD can be PACKED, unpacked,");
        DutyOnLeft x = Check.laid("p0,0,9;g0,0,1,4;g1,0,1,5;g3,0,1,0;");
        Check.due("a CHATTEL", 4, x.pack(0, true));
        Check.due("a DEBT", 9, x.pack(1, true));
        Check.due("a HOUSE", 9, x.pack(2, true));
        Check.due("PACKED", 3, x.count(3));
        Check.due("unpacked", 5, x.pack(0, false));
        Check.due("unpacked", 0, x.pack(1, false));
        Check.due("unpacked", 0, x.pack(2, false));
        Check.due("none PACKED", 0, x.count(3));
        Check.due("and again", 5, x.pack(1, true));
    }

    private static void givenToAnotherHere() {
        Sentences.of("GIVEN to another PERSON HERE");
        DutyOnLeft x = Check.laid("p0,99,9;p0,99,9;p0,99,9;g0,0,1,9;g0,1,2,9;");
        Check.due("to 1", 0, x.give(0, 1));
        Check.due("to 2", 1, x.give(0, 2));
        Check.due("back to 0", 2, x.give(0, 0));
        Check.due("owner", 0, x.good(0, 1));
        Check.refused("to himself is not to another one", NO, x, () -> x.give(0, 0));
        x.leave(2);
        Check.refused("to one GONE", NO, x, () -> x.give(0, 2));
        x.pack(1, true);
        x.leave(1);
        Check.refused("by one GONE", NO, x, () -> x.give(1, 0));
        x.comeBack(2);
        Check.due("to one HERE again", 0, x.give(0, 2));
        DutyOnLeft y = Check.laid("p0,0,0;p0,0,0;g0,0,1,20;");
        Check.due("his STRENGTH does not matter", 0, y.give(0, 1));
    }

    private static void gravesToo() {
        Sentences.of("(GRAVES, too; unpacked then).");
        DutyOnLeft x = Check.laid("p0,0,9;p0,0,9;g2,0,5,0;g0,0,7,3;g1,0,2,1;");
        Check.due("a GRAVE", 0, x.give(0, 1));
        Check.due("owed for by its new owner", 15, x.owes(1));
        x.pack(1, true);
        Check.due("a PACKED one", 0, x.give(1, 1));
        Check.due("unpacked then", 0, x.good(1, 4));
        Check.due("owed for, too", 22, x.owes(1));
        Check.due("what he has PACKED is lighter by it", 1, x.pack(2, true));
        Check.due("to be PACKED anew", 3, x.pack(1, true));
    }

    private static void latest() {
        Sentences.of("UNDONE is the latest of all these");
        DutyOnLeft x = Check.laid("p0,99,9;p0,99,9;p2,99,9;g0,0,20,5;g0,1,9,2;g0,2,12,2;v2,0,6;");
        String[] were = new String[9];
        int[] done = new int[8];
        for (int k = 0; k < 8; k++) {
            were[k] = Check.standing(x);
            done[k] = step(x, k);
            Check.due("done, " + k, new int[] {5, 0, 0, 0, 9, 9, 9, 29}[k], done[k]);
            Check.due("can be UNDONE", k + 1, x.count(8));
        }
        for (int k = 7; k >= 0; k--) {
            Check.due("undo of " + k, k, x.undo());
            Check.same("undone, " + k, were[k], Check.standing(x));
        }
        Check.refused("nothing is left", NO, x, x::undo);
    }

    // Packed, unpacked, given, given back, left, come back, left, two together.
    private static int step(DutyOnLeft x, int k) {
        switch (k) {
            case 0: return x.pack(0, true);
            case 1: return x.pack(0, false);
            case 2: return x.give(0, 1);
            case 3: return x.give(1, 0) - 1;
            case 4: return x.leave(2);
            case 5: return x.comeBack(2);
            case 6: return x.leave(0);
            default: return x.leaveBoth(1, 2) + 9;
        }
    }

    private static void lastEight() {
        Sentences.of("(the last 8 can be).");
        DutyOnLeft x = Check.laid("p0,99,20;" + "g0,0,1,1;".repeat(8));
        for (int g = 0; g < 8; g++) {
            x.pack(g, true);
            Check.due("can be", g + 1, x.count(8));
        }
        x.pack(0, false);
        Check.due("the ninth", 8, x.count(8));
        x.pack(1, false);
        Check.due("the tenth", 8, x.count(8));
        for (int k = 7; k >= 0; k--) {
            Check.due("undo", k, x.undo());
        }
        Check.refused("the first two can not be", NO, x, x::undo);
        Check.due("0 is PACKED", 1, x.good(0, 4));
        Check.due("1 is PACKED", 1, x.good(1, 4));
        Check.due("2 is not", 0, x.good(2, 4));
        roundAndRound();
    }

    // Many more than eight, with some undone between: always the latest, never more than eight.
    private static void roundAndRound() {
        DutyOnLeft x = Check.laid("p0,0,20;p0,0,20;g0,0,1,1;");
        for (int round = 0; round < 7; round++) {
            for (int k = 0; k < 10; k++) {
                Check.due("give", k % 2, x.give(0, (k + 1) % 2));
            }
            Check.due("can be", 8, x.count(8));
            Check.due("undo", 7, x.undo());
            Check.due("whose", 1, x.good(0, 1));
            Check.due("undo", 6, x.undo());
            Check.due("whose", 0, x.good(0, 1));
            Check.due("pack", 1, x.pack(0, true));
            Check.due("can be", 7, x.count(8));
            Check.due("give", 0, x.give(0, 1));
            Check.due("can be", 8, x.count(8));
            Check.due("undo", 7, x.undo());
            Check.due("PACKED", 1, x.good(0, 4));
            Check.due("undo", 6, x.undo());
            Check.due("not PACKED", 0, x.good(0, 4));
        }
    }
}
