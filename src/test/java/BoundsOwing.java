/** The bounds of part 3: OWES, PACK, GIVE, ORDER, STUCK. One method for each sentence. */
final class BoundsOwing {
    private static final int NO = Check.NO, NONE = Check.NONE;
    private static final String ONE = "p0,0,0;";

    private BoundsOwing() {
    }

    static void all() {
        alone();
        withAnother();
        packedNowOrNot();
        noGraves();
        noHeavierThanHisStrength();
        packedAndNothingElse();
        lowestSet();
        giveToOneHere();
        owedTogether();
        lowestWho();
        nobodyElse();
        allOrders();
        goodsAsPacked();
        coinsAside();
        grandmotherNeverAlone();
        leastTogether();
        firstOfSeveral();
        nobodyHere();
        leavesKth();
        stuck();
    }

    private static void alone() {
        Sentences.of("3 OWES: for leaving now, alone;");
        DutyOnLeft x = Check.laid("p0,0,9;p0,0,0;p3,0,0;g0,0,10,1;v0,1,5;");
        Check.due("all the love, though he has no coins", 15, x.owes(0));
        Check.due("though a GRANDMOTHER is HERE", 0, x.owes(2));
        x.pack(0, true);
        Check.due("now", 5, x.owes(0));
        x.leave(1);
        Check.due("now, though he can not leave", 0, x.owes(0));
        Check.due("he can not", 1, x.stuck() & 1);
    }

    private static void withAnother() {
        Sentences.of("with another one.");
        DutyOnLeft x = Check.laid("p0,0,0;p0,0,0;p4,0,0;g0,0,10,0;g0,2,9,0;v0,1,5;v0,2,20;v2,0,3;");
        Check.due("half of 5, cut", 32, x.owesWith(0, 1));
        Check.due("half of 20", 25, x.owesWith(0, 2));
        Check.due("half of 3, cut, the third part", 3, x.owesWith(2, 0));
        Check.due("nothing to halve", 4, x.owesWith(2, 1));
        Check.due("nothing owed", 0, x.owesWith(1, 0));
        Check.due("nothing is halved for good", 35, x.owes(0));
        DutyOnLeft y = Check.laid("p0,0,0;p0,0,0;v0,1,1;v1,0,2;t20;");
        Check.due("half of 1 is 0 ahead of the tenths", 0, y.owesWith(0, 1));
        Check.due("half of 2", 2, y.owesWith(1, 0));
    }

    private static void packedNowOrNot() {
        Sentences.of("PACK for one: of sets of his GOODS (PACKED now or not),");
        DutyOnLeft x = Check.laid("p0,0,9;p0,0,9;g0,0,9,5;g0,0,7,5;g0,1,30,1;");
        Check.due("none is PACKED now", 1, x.packing(0, 0));
        x.pack(1, true);
        Check.due("the other one is PACKED now", 1, x.packing(0, 0));
        Check.due("as much", 7, x.packing(0, 1));
        Check.due("it stays PACKED", 1, x.good(1, 4));
        x.pack(1, false);
        x.pack(0, true);
        Check.due("it is PACKED now", 1, x.packing(0, 0));
        Check.due("as much", 7, x.packing(0, 1));
        Check.due("his own GOODS alone", 4, x.packing(1, 0));
        Check.due("no GOODS at all", 0, Check.laid(ONE).packing(0, 0));
    }

    private static void noGraves() {
        Sentences.of("no GRAVES,");
        DutyOnLeft x = Check.laid("p0,0,20;g2,0,40,0;g0,0,1,0;g2,0,1,0;");
        Check.due("the set", 2, x.packing(0, 0));
        Check.due("as much", 123, x.packing(0, 1));
        DutyOnLeft y = Check.laid("p0,0,20;" + "g2,0,40,0;".repeat(8));
        Check.due("nothing but GRAVES: nothing", 0, y.packing(0, 0));
        Check.due("as much", 960, y.packing(0, 1));
    }

    private static void noHeavierThanHisStrength() {
        Sentences.of("no heavier than his STRENGTH, that one");
        DutyOnLeft x = Check.laid("p0,0,10;g0,0,40,11;g0,0,9,10;g0,0,4,4;g0,0,4,6;");
        Check.due("10 of 10", 2, x.packing(0, 0));
        Check.due("as much", 48, x.packing(0, 1));
        DutyOnLeft y = Check.laid("p0,0,10;g0,0,40,11;g0,0,7,10;g0,0,4,4;g0,0,4,6;");
        Check.due("4 and 6 of 10", 12, y.packing(0, 0));
        DutyOnLeft z = Check.laid("p0,0,9;g0,0,40,11;g0,0,7,10;g0,0,4,4;g0,0,4,6;");
        Check.due("4 or 6 of 9", 4, z.packing(0, 0));
        DutyOnLeft w = Check.laid("p0,0,0;g0,0,40,1;g0,0,1,0;");
        Check.due("0 of 0", 2, w.packing(0, 0));
        Check.due("as much", 40, w.packing(0, 1));
    }

    private static void packedAndNothingElse() {
        Sentences.of("that one by which, PACKED, and nothing else, he owes least for leaving alone,");
        DutyOnLeft x = Check.laid("p0,0,20;p0,0,0;g1,0,9,1;g0,0,30,1;g0,0,4,1;v0,1,11;");
        Check.due("the DEBT is LEFT", 6, x.packing(0, 0));
        Check.due("as much: love less the DEBT", 2, x.packing(0, 1));
        x.pack(0, true);
        Check.due("the DEBT is PACKED now, and is LEFT then", 6, x.packing(0, 0));
        Check.due("as much", 2, x.packing(0, 1));
        Check.due("now", 45, x.owes(0));
        x.leave(1);
        Check.due("nobody LOVED: as things stand", 2, x.packing(0, 0));
        Check.due("as much", 0, x.packing(0, 1));
    }

    private static void lowestSet() {
        Sentences.of("of several the lowest (as bits by GOODS): it; as much.");
        DutyOnLeft x = Check.laid("p0,0,5;g0,0,9,5;g0,0,9,5;g0,0,9,5;");
        Check.due("the lowest of three", 1, x.packing(0, 0));
        Check.due("as much", 18, x.packing(0, 1));
        DutyOnLeft y = Check.laid("p0,0,5;g0,0,8,5;g0,0,4,2;g0,0,4,3;");
        Check.due("one, or two together: the lowest as bits", 1, y.packing(0, 0));
        DutyOnLeft z = Check.laid("p0,0,5;g0,0,4,2;g0,0,4,3;g0,0,8,5;");
        Check.due("two together, or one: the lowest as bits", 3, z.packing(0, 0));
        DutyOnLeft w = Check.laid("p0,0,20;g0,0,5,1;g1,0,40,1;");
        Check.due("nothing, where it is as good", 0, w.packing(0, 0));
        DutyOnLeft v = Check.laid("p4,0,20;g0,0,1,1;g0,0,2,1;g0,0,3,1;");
        Check.due("what is cut anyhow stays", 5, v.packing(0, 0));
        Check.due("as much", 0, v.packing(0, 1));
        DutyOnLeft u = Check.laid("p0,0,20;" + "g0,0,1,2;".repeat(8));
        Check.due("all eight", 255, u.packing(0, 0));
        DutyOnLeft t = Check.laid("p0,0,0;p0,0,2;" + "g0,0,1,2;".repeat(7) + "g0,1,1,2;");
        Check.due("the eighth", 128, t.packing(1, 0));
    }

    private static void giveToOneHere() {
        Sentences.of("GIVE a GOOD: of PERSONS HERE, but its owner,");
        DutyOnLeft x = Check.laid("p4,99,0;p0,99,0;p1,99,0;p4,99,0;g0,0,30,0;g0,2,30,0;");
        Check.due("not to its owner, though he owes least", 3, x.giving(0, 0));
        Check.due("not to its owner", 0, x.giving(1, 0));
        x.leave(3);
        Check.due("not to one GONE", 2, x.giving(0, 0));
        Check.due("as much", 30, x.giving(0, 1));
        x.give(0, 1);
        Check.due("of its new owner", 0, x.giving(0, 0));
        x.comeBack(3);
        x.leave(0);
        Check.due("to one HERE again", 3, x.giving(0, 0));
        Check.due("a GRAVE, too", 1, Check.laid("p0,0,0;p4,0,0;g2,0,5,0;").giving(0, 0));
        Check.due("a GRAVE, as much", 5, Check.laid("p0,0,0;p4,0,0;g2,0,5,0;").giving(0, 1));
    }

    private static void owedTogether() {
        Sentences.of("that one by whose being GIVEN it all who are HERE owe least together, each for leaving alone,");
        DutyOnLeft x = Check.laid("p0,99,9;p0,99,0;p0,99,0;g0,0,10,9;g1,1,7,0;g1,2,8,0;v0,1,4;v1,2,3;v2,0,1;");
        Check.due("to him whose DEBT takes up most", 2, x.giving(0, 0));
        Check.due("0 owes 4, 1 nothing, 2 owes 3", 7, x.giving(0, 1));
        x.pack(0, true);
        Check.due("unpacked by being GIVEN", 7, x.giving(0, 1));
        Check.due("a DEBT to him who would owe", 0, x.giving(1, 0));
        Check.due("0 owes nothing, 1 owes 3, 2 nothing", 3, x.giving(1, 1));
        x.pack(0, false);
        x.leave(1);
        Check.due("of those who are HERE", 3, x.giving(0, 1));
    }

    private static void lowestWho() {
        Sentences.of("of several the lowest: who; as much;");
        DutyOnLeft x = Check.laid("p0,0,0;p0,0,0;p0,0,0;g0,0,10,0;g0,1,5,0;");
        Check.due("1 or 2", 1, x.giving(0, 0));
        Check.due("0 or 2", 0, x.giving(1, 0));
        Check.due("as much", 15, x.giving(0, 1));
        DutyOnLeft y = Check.laid(ONE.repeat(6) + "g0,5,10,0;");
        Check.due("the lowest of five", 0, y.giving(0, 0));
        y.leave(0);
        y.leave(1);
        Check.due("the lowest HERE", 2, y.giving(0, 0));
    }

    private static void nobodyElse() {
        Sentences.of("none (nobody else is HERE).");
        DutyOnLeft x = Check.laid(ONE + "g0,0,10,0;");
        Check.refused("of one: who", NONE, x, () -> x.giving(0, 0));
        Check.refused("of one: as much", NONE, x, () -> x.giving(0, 1));
        DutyOnLeft y = Check.laid(ONE + ONE + "g0,0,10,0;");
        Check.due("another one is HERE", 1, y.giving(0, 0));
        y.leave(1);
        Check.due("he is GONE: who", NONE, y.giving(0, 0));
        Check.due("he is GONE: as much", NONE, y.giving(0, 1));
        y.comeBack(1);
        Check.due("he is HERE again", 10, y.giving(0, 1));
    }

    private static void orders(DutyOnLeft x, int... wants) {
        for (int k = 0; k < wants.length; k++) {
            Check.due("order(" + k + ")", wants[k], x.order(k));
        }
    }

    private static void allOrders() {
        Sentences.of("ORDER: of all orders in which all who are HERE leave, one by one, alone,");
        DutyOnLeft x = Check.laid("p0,0,0;p0,0,0;p0,0,0;v0,1,20;v1,2,20;v2,0,20;v0,2,3;v2,1,5;v1,0,7;");
        orders(x, 28, 0, 2, 1, NONE, NONE, NONE);
        DutyOnLeft y = Check.laid("p0,0,0;p0,0,0;v0,1,7;v1,0,9;");
        orders(y, 7, 0, 1, NONE);
        DutyOnLeft z = Check.laid("p0,99,0;".repeat(3) + "v0,1,2;v1,2,3;v2,0,4;v1,0,9;");
        z.leave(2);
        orders(z, 2, 0, 1, NONE, NONE);
        DutyOnLeft w = Check.laid(ONE.repeat(6) + "v0,1,1;v1,2,2;v2,3,3;v3,4,4;v4,5,5;v0,5,6;");
        orders(w, 0, 5, 4, 3, 2, 1, 0);
    }

    private static void goodsAsPacked() {
        Sentences.of("with GOODS PACKED as they are,");
        DutyOnLeft x = Check.laid("p0,0,20;p1,0,20;g0,0,10,1;g0,0,5,1;g0,1,8,1;");
        orders(x, 19, 0, 1);
        x.pack(0, true);
        orders(x, 9, 0, 1);
        x.pack(2, true);
        orders(x, 5, 0, 1);
        x.give(0, 1);
        Check.due("GIVEN, unpacked", 10, x.order(0));
        DutyOnLeft y = Check.laid("p0,0,20;p0,0,20;g1,0,9,1;g0,1,5,1;v0,1,20;v1,0,10;");
        orders(y, 15, 1, 0);
        y.pack(0, true);
        Check.due("the DEBT PACKED", 15, y.order(0));
        y.pack(1, true);
        orders(y, 10, 1, 0);
    }

    private static void coinsAside() {
        Sentences.of("coins aside,");
        DutyOnLeft x = Check.laid("p0,0,0;p0,0,0;g0,0,40,0;g0,1,40,0;v0,1,1;");
        Check.due("none has the coins", 3, x.stuck());
        orders(x, 80, 1, 0);
        DutyOnLeft y = Check.laid("p0,0,0;p0,99,0;v0,1,3;v1,0,5;");
        orders(y, 3, 0, 1);
    }

    private static void grandmotherNeverAlone() {
        Sentences.of("a GRANDMOTHER never being the only one HERE behind any of them,");
        orders(Check.laid("p0,0,0;p3,0,0;v1,0,20;"), 20, 1, 0);
        orders(Check.laid("p3,0,0;p3,0,0;"), NONE, NONE, NONE, NONE, NONE, NONE, NONE);
        orders(Check.laid("p3,0,0;"), 0, 0, NONE);
        orders(Check.laid("p3,0,0;p3,0,0;p0,0,0;v0,2,20;v1,2,20;v2,0,1;"), 40, 0, 1, 2, NONE);
        orders(Check.laid("p3,0,0;p0,0,0;p0,0,0;v0,1,9;v0,2,8;"), 8, 1, 0, 2);
        DutyOnLeft x = Check.laid("p3,0,0;p0,0,0;p3,0,0;");
        orders(x, 0, 0, 2, 1);
        x.leave(1);
        Check.refused("two of them HERE now", NONE, x, () -> x.order(0));
        Check.refused("two of them HERE now", NONE, x, () -> x.order(2));
        x.comeBack(1);
        orders(x, 0, 0, 2, 1);
    }

    private static void leastTogether() {
        Sentences.of("that one by which they pay least together,");
        orders(Check.laid("p1,0,0;p4,0,0;p0,0,0;v0,1,20;v1,0,20;v1,2,9;v2,1,4;v0,2,10;"), 9, 1, 2, 0);
        orders(Check.laid("p0,0,0;p0,0,0;g1,0,20,0;v0,1,20;v1,0,1;"), 0, 0, 1);
        orders(Check.laid("p0,0,0;p0,0,0;p0,0,0;g0,0,40,0;v0,1,1;v0,2,1;v1,0,5;v2,0,5;"), 42, 0, 1, 2);
    }

    private static void firstOfSeveral() {
        Sentences.of("of several the first:");
        orders(Check.laid(ONE.repeat(6)), 0, 0, 1, 2, 3, 4, 5);
        orders(Check.laid(ONE.repeat(3) + "v0,1,5;v1,0,5;"), 5, 0, 1, 2);
        orders(Check.laid(ONE.repeat(4) + "v0,3,5;v1,3,5;"), 0, 2, 3, 0, 1);
        orders(Check.laid(ONE.repeat(3) + "v1,2,5;"), 0, 0, 2, 1);
        DutyOnLeft x = Check.laid(ONE.repeat(6));
        x.leave(0);
        x.leave(3);
        orders(x, 0, 1, 2, 4, 5, NONE, NONE);
    }

    private static void nobodyHere() {
        Sentences.of("as much (0, if nobody is HERE);");
        DutyOnLeft x = Check.laid("p0,99,0;p3,99,0;g0,0,9,0;");
        Check.due("both HERE", 9, x.order(0));
        x.leaveBoth(0, 1);
        orders(x, 0, NONE, NONE, NONE, NONE, NONE, NONE);
    }

    private static void leavesKth() {
        Sentences.of("who leaves k-th; none.");
        DutyOnLeft x = Check.laid(ONE.repeat(6) + "v0,1,9;");
        orders(x, 0, 1, 0, 2, 3, 4, 5);
        x.leave(5);
        orders(x, 0, 1, 0, 2, 3, 4, NONE);
        x.leave(4);
        orders(x, 0, 1, 0, 2, 3, NONE, NONE);
        DutyOnLeft y = Check.laid(ONE);
        orders(y, 0, 0, NONE, NONE, NONE, NONE, NONE);
    }

    private static void stuck() {
        Sentences.of("STUCK: PERSONS HERE (bits) that can not leave now, alone.");
        DutyOnLeft x = Check.laid("p0,9,9;p0,10,9;p0,11,9;p0,0,0;p0,0,0;p0,0,0;g0,0,10,9;g0,1,10,9;g0,2,10,9;v5,0,1;");
        Check.due("one coin short; nobody but those", 1 + 32, x.stuck());
        x.pack(0, true);
        Check.due("now", 32, x.stuck());
        x.leave(0);
        Check.due("one GONE is not stuck", 0, x.stuck());
        DutyOnLeft y = Check.laid("p3,0,0;p0,0,0;");
        Check.due("he may not leave her alone", 2, y.stuck());
        y.leaveBoth(0, 1);
        Check.due("nobody is HERE", 0, y.stuck());
        y.comeBack(0);
        Check.due("she, HERE alone, can leave", 0, y.stuck());
        DutyOnLeft z = Check.laid("p3,0,0;p3,0,0;");
        Check.due("neither may leave the other one alone", 3, z.stuck());
        DutyOnLeft w = Check.laid(ONE.repeat(6) + "g0,0,1,0;g0,1,1,0;g0,2,1,0;g0,3,1,0;g0,4,1,0;g0,5,1,0;");
        Check.due("all six", 63, w.stuck());
        Check.due("together they could not, either", NO, w.leaveBoth(0, 1));
        DutyOnLeft v = Check.laid("p0,5,0;p0,5,0;v0,1,10;v1,0,10;");
        Check.due("alone", 3, v.stuck());
        Check.due("together they can", 10, v.leaveBoth(0, 1));
    }
}
