/** The bounds of promises 1 to 30: two methods for most, of what is answered and of what is refused. */
final class BoundsPromises {
    private static final int BAD = Check.BAD, NO = Check.NO, FULL = Check.FULL, NONE = Check.NONE;
    private static final int[] BEYOND = {1, 2, 32, 64, 256, 65536};
    private static final String SMALL = "p0,50,9;p2,50,9;p4,50,9;g0,0,20,5;g1,0,5,4;g2,1,4,0;g3,2,9,0;g0,0,3,1;v0,1,6;v1,0,4;t5;";

    /** A call of the face with all its numbers. */
    private interface Call {
        int of(DutyOnLeft x, int[] a);
    }

    private BoundsPromises() {
    }

    static void all() {
        newObject();
        texts();
        lay();
        person();
        good();
        love();
        pack();
        give();
        leave();
        leaveBoth();
        comeBack();
        undo();
        owes();
        packing();
        giving();
        order();
        stuck();
        swear();
        isFalse();
        loved();
        byTurns();
        chairsAndYear();
        keepAndBack();
        count();
    }

    // Two have SWORN, one can be UNDONE, one is KEPT.
    private static DutyOnLeft standing() {
        DutyOnLeft x = new DutyOnLeft();
        x.swear(2, 3);
        x.swear(3, 4);
        x.keep();
        x.pack(0, true);
        return x;
    }

    private static void told(String name, int[] a, Call c) {
        Check.due(name + java.util.Arrays.toString(a) + " is told", 1, c.of(standing(), a) == BAD ? 0 : 1);
    }

    private static void notTold(String name, int[] a, Call c) {
        DutyOnLeft x = standing();
        Check.refused(name + java.util.Arrays.toString(a), BAD, x, () -> c.of(x, a));
    }

    // Each number from its lowest to its highest is told, none beyond; bounds holds the lowest and the highest of each.
    private static void bounds(String name, int[] fine, int[] bounds, Call c) {
        for (int at = 0; at < fine.length; at++) {
            int[] a = fine.clone();
            int low = bounds[2 * at];
            int high = bounds[2 * at + 1];
            for (int odd : new int[] {low, high}) {
                a[at] = odd;
                told(name, a, c);
            }
            for (int by : BEYOND) {
                a[at] = low - by;
                notTold(name, a, c);
                a[at] = high + by;
                notTold(name, a, c);
            }
            a[at] = Integer.MIN_VALUE;
            notTold(name, a, c);
            a[at] = Integer.MAX_VALUE;
            notTold(name, a, c);
        }
        int[] all = new int[fine.length];
        java.util.Arrays.fill(all, -1);
        notTold(name, all, c);
        java.util.Arrays.fill(all, Integer.MAX_VALUE);
        notTold(name, all, c);
    }

    private static void newObject() {
        Sentences.of("`DutyOnLeft()`: As told.");
        DutyOnLeft x = new DutyOnLeft();
        int[] counts = {5, 6, 0, 0, 0, 0, 8, 0, 0, 0, 0};
        for (int k = 0; k < counts.length; k++) {
            Check.due("count(" + k + ")", counts[k], x.count(k));
        }
        Check.refused("undo", NO, x, x::undo);
        Check.refused("back", NO, x, x::back);
        Check.refused("lay of an empty TEXT", NO, x, x::lay);
        Check.refused("none SWORN", BAD, x, () -> x.isFalse(0));
        DutyOnLeft y = new DutyOnLeft();
        x.leave(1);
        Check.due("another object stands for itself", 1, y.person(1, 3));
    }

    private static void texts() {
        Sentences.of("`int write(int letter)`: A letter (32 to 126, as in ASCII) comes behind THE TEXT: how long it is.");
        DutyOnLeft x = new DutyOnLeft();
        for (int letter = 32; letter <= 126; letter++) {
            Check.due("write(" + letter + ")", letter - 31, x.write(letter));
        }
        x.wipe();
        Check.written(x, "t0");
        x.write(';');
        Check.due("behind, not ahead", 0, x.fault());
        Sentences.of("how long it is. BAD; FULL.");
        bounds("write", new int[] {'p'}, new int[] {32, 126}, (y, a) -> y.write(a[0]));
        DutyOnLeft y = new DutyOnLeft();
        Check.written(y, " ".repeat(200));
        Check.refused("write, full", FULL, y, () -> y.write(' '));
        Check.refused("write, full", FULL, y, () -> y.write(126));
        Sentences.of("`int wipe()`: THE TEXT is empty: how long it was.");
        Check.due("of 200", 200, y.wipe());
        Check.due("of none", 0, y.wipe());
        Check.due("letters", 0, y.count(10));
        Check.due("the first one", 1, y.write('t'));
        Check.due("of one", 1, y.wipe());
        Check.due("nothing is left to be read", NONE, y.fault());
        Check.due("the family stands", 5, y.count(0));
        Sentences.of("`int fault()`: FAULT. NONE.");
        Check.due("an empty TEXT", NONE, y.fault());
        Check.written(y, "t1;t0;");
        Check.refused("a fault", 3, y, y::fault);
        Check.written(y, "t1;t2;");
        Check.refused("none", NONE, y, y::fault);
        Check.due("nothing is laid by it", 8, y.count(6));
    }

    private static void lay() {
        Sentences.of("`int lay()`: LAID: how many PERSONS;");
        for (int many = 1; many <= 6; many++) {
            DutyOnLeft x = new DutyOnLeft();
            Check.written(x, "p0,0,0;".repeat(many));
            Check.due("lay", many, x.lay());
        }
        Sentences.of("all HERE, nothing PACKED, SWORN, UNDONE, KEPT;");
        DutyOnLeft x = Check.laid(SMALL);
        x.keep();
        x.keep();
        x.pack(0, true);
        x.leave(0);
        x.leaveBoth(1, 2);
        x.comeBack(1);
        x.swear(1, 4);
        Check.due("lay anew", 3, x.lay());
        int[] counts = {3, 5, 0, 0, 0, 0, 5, 0, 0, 0, SMALL.length()};
        for (int k = 0; k < counts.length; k++) {
            Check.due("count(" + k + ")", counts[k], x.count(k));
        }
        Check.same("as laid for the first time", Check.standing(Check.laid(SMALL)), Check.standing(x));
        Check.refused("undo", NO, x, x::undo);
        Check.refused("back", NO, x, x::back);
        Check.refused("isFalse", BAD, x, () -> x.isFalse(0));
        Check.written(x, "p2,9,0;");
        Check.due("lay of another one", 1, x.lay());
        x.leave(0);
        Check.due("what a BRIDE before paid is no more", 0, x.comeBack(0));
        Sentences.of("THE TEXT stays. NO.");
        Check.due("lay again", 1, x.lay());
        Check.due("letters", 7, x.count(10));
        Check.due("one more letter", 8, x.write('?'));
        Check.refused("lay of a fault", NO, x, x::lay);
        x.wipe();
        Check.refused("lay of no PERSON", NO, x, x::lay);
    }

    private static void person() {
        Sentences.of("`int person(int i, int what)`: Of a PERSON: KIND (what = 0), coins (1), STRENGTH (2), 1 if HERE (3), what he paid in all (4).");
        DutyOnLeft x = Check.laid("p4,90,7;p2,80,6;g0,0,30,0;g0,1,20,0;");
        x.leave(0);
        x.leave(1);
        x.comeBack(1);
        int[][] rows = {{4, 80, 7, 0, 10}, {2, 60, 6, 1, 20}};
        for (int i = 0; i < 2; i++) {
            for (int what = 0; what < 5; what++) {
                Check.due("person(" + i + ", " + what + ")", rows[i][what], x.person(i, what));
            }
        }
        x.undo();
        Check.due("paid, coming back UNDONE", 10, x.person(1, 4));
        Check.due("coins, coming back UNDONE", 70, x.person(1, 1));
        Sentences.of("paid in all (4). BAD.");
        bounds("person", new int[] {1, 1}, new int[] {0, 4, 0, 4}, (y, a) -> y.person(a[0], a[1]));
    }

    private static void good() {
        Sentences.of("`int good(int g, int what)`: Of a GOOD: KIND (what = 0), owner (1; NONE), worth (2), how heavy (3), 1 if PACKED (4).");
        DutyOnLeft x = Check.laid("p0,99,20;p0,99,20;g3,0,30,9;g1,1,20,8;g0,0,10,7;");
        x.pack(0, true);
        x.leave(0);
        int[][] rows = {{3, 0, 30, 9, 1}, {1, 1, 20, 8, 0}, {0, NONE, 10, 7, 0}};
        for (int g = 0; g < 3; g++) {
            for (int what = 0; what < 5; what++) {
                Check.due("good(" + g + ", " + what + ")", rows[g][what], x.good(g, what));
            }
        }
        Sentences.of("1 if PACKED (4). BAD.");
        bounds("good", new int[] {1, 1}, new int[] {0, 5, 0, 4}, (y, a) -> y.good(a[0], a[1]));
    }

    private static void love() {
        Sentences.of("`int love(int i, int j)`: By how much one LOVES another one.");
        DutyOnLeft x = Check.laid(SMALL);
        Check.due("0, 1", 6, x.love(0, 1));
        Check.due("1, 0", 4, x.love(1, 0));
        Check.due("0, 2", 0, x.love(0, 2));
        x.leave(0);
        Check.due("of one GONE", 6, x.love(0, 1));
        Check.due("for one GONE", 4, x.love(1, 0));
        Sentences.of("one LOVES another one. BAD (alike, too).");
        bounds("love", new int[] {2, 3}, new int[] {0, 4, 0, 4}, (y, a) -> y.love(a[0], a[1]));
        for (int i = -1; i < 7; i++) {
            notTold("love", new int[] {i, i}, (y, a) -> y.love(a[0], a[1]));
        }
    }

    private static void pack() {
        Sentences.of("`int pack(int g, boolean packed)`: A GOOD is PACKED (packed = true), unpacked: how heavy what its owner has PACKED is then.");
        DutyOnLeft x = Check.laid(SMALL);
        Check.due("5", 5, x.pack(0, true));
        Check.due("and 4", 9, x.pack(1, true));
        Check.due("of the other one nothing heavy", 0, x.pack(3, true));
        Check.due("without 5", 4, x.pack(0, false));
        Check.due("and 1", 5, x.pack(4, true));
        Check.due("PACKED", 1, x.good(4, 4));
        Check.due("not PACKED", 0, x.good(0, 4));
        Sentences.of("PACKED is then. BAD; NO: it is so already, a GRAVE, too heavy, nobody's, of one who is GONE.");
        bounds("pack", new int[] {3}, new int[] {0, 5}, (y, a) -> y.pack(a[0], true));
        bounds("unpack", new int[] {3}, new int[] {0, 5}, (y, a) -> y.pack(a[0], false));
        Check.refused("is PACKED already", NO, x, () -> x.pack(4, true));
        Check.refused("is unpacked already", NO, x, () -> x.pack(0, false));
        Check.refused("a GRAVE", NO, x, () -> x.pack(2, true));
        Check.refused("too heavy", NO, x, () -> x.pack(0, true));
        x.leave(0);
        Check.refused("nobody's", NO, x, () -> x.pack(0, true));
        Check.refused("nobody's, unpacked", NO, x, () -> x.pack(0, false));
        Check.refused("of one who is GONE, PACKED", NO, x, () -> x.pack(4, true));
        Check.refused("of one who is GONE, unpacked", NO, x, () -> x.pack(4, false));
    }

    private static void give() {
        Sentences.of("`int give(int g, int j)`: A GOOD is GIVEN to j: whose it was.");
        DutyOnLeft x = Check.laid(SMALL);
        Check.due("of 2", 2, x.give(3, 0));
        Check.due("of 0", 0, x.give(3, 1));
        Check.due("of 1", 1, x.give(3, 2));
        Check.due("whose it is", 2, x.good(3, 1));
        Sentences.of("whose it was. BAD; NO: his already, nobody's, of one who is GONE, j is GONE.");
        bounds("give", new int[] {3, 2}, new int[] {0, 5, 0, 4}, (y, a) -> y.give(a[0], a[1]));
        Check.refused("his already", NO, x, () -> x.give(3, 2));
        x.pack(0, true);
        x.leave(0);
        Check.refused("nobody's", NO, x, () -> x.give(1, 2));
        Check.refused("of one who is GONE, to one HERE", NO, x, () -> x.give(0, 2));
        Check.refused("of one who is GONE, to himself", NO, x, () -> x.give(0, 0));
        Check.refused("j is GONE", NO, x, () -> x.give(3, 0));
        Check.refused("nobody's, j is GONE", NO, x, () -> x.give(1, 0));
    }

    private static void leave() {
        Sentences.of("`int leave(int i)`: One LEAVES: what he pays.");
        DutyOnLeft x = Check.laid(SMALL);
        Check.due("20 - 5 + 3 + 6, half", 12, x.leave(0));
        Check.due("12, half, half", 3, x.leave(1));
        Check.due("4, half, the third part", 0, x.leave(2));
        Check.due("paid in all", 15, x.count(5));
        Sentences.of("BAD; NO: he is GONE, can not.");
        bounds("leave", new int[] {0}, new int[] {0, 4}, (y, a) -> y.leave(a[0]));
        Check.refused("is GONE", NO, x, () -> x.leave(0));
        DutyOnLeft y = Check.laid("p0,9,0;p3,9,0;g0,0,10,0;p0,9,0;");
        Check.refused("has not the coins", NO, y, () -> y.leave(0));
        y.give(0, 1);
        Check.due("owes nothing then", 0, y.leave(0));
        Check.refused("would leave her alone", NO, y, () -> y.leave(2));
    }

    private static void leaveBoth() {
        Sentences.of("`int leaveBoth(int i, int j)`: Two LEAVE TOGETHER: what both pay.");
        DutyOnLeft x = Check.laid(SMALL);
        Check.due("18 + 3, half; 12 + 2, half, half", 10 + 3, x.leaveBoth(0, 1));
        Check.due("paid by 0", 10, x.person(0, 4));
        Check.due("paid by 1", 3, x.person(1, 4));
        Check.due("GONE", 2, x.count(2));
        Check.due("UNDONE at once", 0, x.undo());
        Check.due("the other way round", 13, x.leaveBoth(1, 0));
        Sentences.of("what both pay. BAD (alike, too); NO: one is GONE, can not.");
        bounds("leaveBoth", new int[] {2, 3}, new int[] {0, 4, 0, 4}, (y, a) -> y.leaveBoth(a[0], a[1]));
        for (int i = -1; i < 7; i++) {
            notTold("leaveBoth", new int[] {i, i}, (y, a) -> y.leaveBoth(a[0], a[1]));
        }
        Check.refused("both are GONE", NO, x, () -> x.leaveBoth(0, 1));
        Check.refused("the first is GONE", NO, x, () -> x.leaveBoth(0, 2));
        Check.refused("the second is GONE", NO, x, () -> x.leaveBoth(2, 0));
        DutyOnLeft y = Check.laid("p0,9,0;p0,9,0;p3,0,0;g0,0,10,0;");
        Check.refused("one has not the coins", NO, y, () -> y.leaveBoth(0, 2));
        y.give(0, 2);
        Check.refused("would leave her alone", NO, y, () -> y.leaveBoth(0, 1));
        Check.refused("she has not the coins", NO, y, () -> y.leaveBoth(1, 2));
    }

    private static void comeBack() {
        Sentences.of("`int comeBack(int i)`: One COMES BACK: what he pays.");
        DutyOnLeft x = Check.laid(SMALL);
        x.leave(0);
        x.leave(1);
        Check.due("a PLAIN one", 0, x.comeBack(0));
        Check.due("a BRIDE", 3, x.comeBack(1));
        Check.due("HERE", 0, x.count(2));
        Sentences.of("BAD; NO: he is HERE, can not.");
        bounds("comeBack", new int[] {0}, new int[] {0, 4}, (y, a) -> y.comeBack(a[0]));
        Check.refused("is HERE", NO, x, () -> x.comeBack(0));
        Check.refused("a BRIDE is HERE", NO, x, () -> x.comeBack(1));
        DutyOnLeft y = Check.laid("p2,9,0;g0,0,10,0;");
        y.leave(0);
        Check.refused("has not that", NO, y, () -> y.comeBack(0));
    }

    private static void undo() {
        Sentences.of("`int undo()`: UNDONE: how many more can be. NO.");
        DutyOnLeft x = Check.laid(SMALL);
        Check.refused("nothing yet", NO, x, x::undo);
        x.pack(0, true);
        x.leave(1);
        x.comeBack(1);
        Check.due("the third", 2, x.undo());
        Check.due("GONE again", 0, x.person(1, 3));
        Check.due("the second", 1, x.undo());
        Check.due("HERE again", 1, x.person(1, 3));
        Check.due("coins again", 50, x.person(1, 1));
        Check.due("the first", 0, x.undo());
        Check.refused("no more", NO, x, x::undo);
        for (int k = 0; k < 9; k++) {
            x.pack(0, k % 2 == 0);
        }
        for (int k = 7; k >= 0; k--) {
            Check.due("of nine", k, x.undo());
        }
        Check.refused("the first of nine", NO, x, x::undo);
        Check.due("it stands", 1, x.good(0, 4));
    }

    private static void owes() {
        Sentences.of("`int owes(int i)`: OWES, alone.");
        DutyOnLeft x = Check.laid(SMALL);
        Check.due("a PLAIN one", 12, x.owes(0));
        Check.due("a BRIDE", 4, x.owes(1));
        Check.due("a CHILD", 0, x.owes(2));
        Sentences.of("OWES, alone. BAD; NO: GONE.");
        bounds("owes", new int[] {0}, new int[] {0, 4}, (y, a) -> y.owes(a[0]));
        x.leave(1);
        Check.refused("GONE", NO, x, () -> x.owes(1));
        Sentences.of("`int owesWith(int i, int j)`: OWES, i with j.");
        x.comeBack(1);
        Check.due("0 with 1", 10, x.owesWith(0, 1));
        Check.due("1 with 0", 0, x.owesWith(1, 0));
        Check.due("0 with 2", 12, x.owesWith(0, 2));
        Sentences.of("OWES, i with j. BAD (alike, too); NO: one is GONE.");
        bounds("owesWith", new int[] {2, 3}, new int[] {0, 4, 0, 4}, (y, a) -> y.owesWith(a[0], a[1]));
        for (int i = -1; i < 7; i++) {
            notTold("owesWith", new int[] {i, i}, (y, a) -> y.owesWith(a[0], a[1]));
        }
        x.leave(1);
        Check.refused("i is GONE", NO, x, () -> x.owesWith(1, 0));
        Check.refused("j is GONE", NO, x, () -> x.owesWith(0, 1));
    }

    private static void packing() {
        Sentences.of("`int packing(int i, int what)`: PACK: the set (what = 0), as much (1).");
        DutyOnLeft x = Check.laid(SMALL);
        Check.due("0: 20 and 3", 17, x.packing(0, 0));
        Check.due("6 - 5, half", 0, x.packing(0, 1));
        Check.due("1: no GRAVE", 0, x.packing(1, 0));
        Check.due("as she is", 4, x.packing(1, 1));
        Sentences.of("the set (what = 0), as much (1). BAD; NO: GONE.");
        bounds("packing", new int[] {0, 0}, new int[] {0, 4, 0, 1}, (y, a) -> y.packing(a[0], a[1]));
        x.leave(0);
        Check.refused("GONE: the set", NO, x, () -> x.packing(0, 0));
        Check.refused("GONE: as much", NO, x, () -> x.packing(0, 1));
    }

    private static void giving() {
        Sentences.of("`int giving(int g, int what)`: GIVE: to whom (what = 0), as much (1).");
        DutyOnLeft x = Check.laid(SMALL);
        Check.due("20 to the CHILD", 2, x.giving(0, 0));
        Check.due("2 + 4 + 4", 10, x.giving(0, 1));
        Sentences.of("to whom (what = 0), as much (1). NONE; BAD; NO: nobody's, of one who is GONE.");
        bounds("giving", new int[] {0, 0}, new int[] {0, 5, 0, 1}, (y, a) -> y.giving(a[0], a[1]));
        x.pack(0, true);
        x.leave(0);
        Check.refused("of one who is GONE", NO, x, () -> x.giving(0, 0));
        Check.refused("nobody's", NO, x, () -> x.giving(1, 1));
        x.leave(1);
        Check.refused("NONE: to whom", NONE, x, () -> x.giving(3, 0));
        Check.refused("NONE: as much", NONE, x, () -> x.giving(3, 1));
    }

    private static void order() {
        Sentences.of("`int order(int k)`: ORDER: least (k = 0), who leaves k-th (1 to 6; NONE: there are not so many).");
        DutyOnLeft x = Check.laid("p0,0,0;".repeat(6) + "g0,5,7,0;v0,5,3;");
        int[] wants = {7, 1, 2, 3, 4, 5, 0};
        for (int k = 0; k < 7; k++) {
            Check.due("order(" + k + ")", wants[k], x.order(k));
        }
        x.leave(4);
        Check.due("the fifth of five", 0, x.order(5));
        Check.refused("the sixth of five", NONE, x, () -> x.order(6));
        Sentences.of("there are not so many). NONE; BAD.");
        bounds("order", new int[] {0}, new int[] {0, 6}, (y, a) -> y.order(a[0]));
        DutyOnLeft y = Check.laid("p3,0,0;p3,0,0;");
        for (int k = 0; k < 7; k++) {
            int at = k;
            Check.refused("two GRANDMOTHERS, " + k, NONE, y, () -> y.order(at));
        }
        Check.refused("BAD", BAD, y, () -> y.order(7));
    }

    private static void stuck() {
        Sentences.of("`int stuck()`: STUCK, as bits.");
        Check.due("2 and 3", 4 + 8, new DutyOnLeft().stuck());
        Check.due("5", 32, Check.laid("p0,0,0;".repeat(6) + "g0,5,7,0;").stuck());
        Check.due("none", 0, Check.laid("p3,0,0;").stuck());
    }

    private static void swear() {
        Sentences.of("`int swear(int i, int k)`: SWORN: how many.");
        DutyOnLeft x = Check.laid(SMALL);
        Check.due("one", 1, x.swear(0, 12));
        Check.due("the same once more", 2, x.swear(0, 12));
        Sentences.of("SWORN: how many. BAD; NO: GONE; FULL.");
        bounds("swear", new int[] {0, 5}, new int[] {0, 4, 0, 999}, (y, a) -> y.swear(a[0], a[1]));
        x.leave(1);
        Check.refused("GONE", NO, x, () -> x.swear(1, 0));
        for (int k = 3; k <= 6; k++) {
            Check.due("so many", k, x.swear(2, 0));
        }
        Check.refused("a seventh", FULL, x, () -> x.swear(2, 0));
        Sentences.of("`int forget()`: Nothing is SWORN: how many were.");
        Check.due("six", 6, x.forget());
        Check.due("SWORN", 0, x.count(7));
        Check.refused("of none", 0, x, x::forget);
        Check.due("swear again", 1, x.swear(2, 0));
        Check.due("one", 1, x.forget());
    }

    private static void isFalse() {
        Sentences.of("`int isFalse(int k)`: FALSE of the k-th SWORN (0 first), as bits.");
        DutyOnLeft x = Check.laid(SMALL);
        int[][] rows = {{0, 12, 256}, {0, 2, 1}, {0, 14, 2}, {0, 10, 16}, {1, 1, 4}, {2, 0, 256 + 8}};
        for (int k = 0; k < 6; k++) {
            x.swear(rows[k][0], rows[k][1]);
        }
        for (int k = 5; k >= 0; k--) {
            Check.due("isFalse(" + k + ")", rows[k][2], x.isFalse(k));
        }
        Sentences.of("(0 first), as bits. BAD; NO: he is GONE.");
        bounds("isFalse", new int[] {0}, new int[] {0, 1}, (y, a) -> y.isFalse(a[0]));
        Check.refused("the seventh of six", BAD, x, () -> x.isFalse(6));
        x.leave(1);
        Check.refused("he is GONE", NO, x, () -> x.isFalse(4));
        Check.due("others are HERE", 264, x.isFalse(5));
        x.forget();
        Check.refused("none SWORN", BAD, x, () -> x.isFalse(0));
    }

    private static void loved() {
        Sentences.of("`int loved(int k, int j, int what)`: LOVED, of the k-th SWORN, for j: how many (what = 0), the lowest (1; NONE).");
        DutyOnLeft x = Check.laid(SMALL);
        x.swear(1, 4);
        x.swear(0, 12);
        x.swear(0, 30);
        Check.due("1 for 0: 16 to 19", 4, x.loved(0, 0, 0));
        Check.due("12 and 4, half, half", 4, x.loved(0, 0, 1));
        Check.due("0 for 1: 6 and 7", 2, x.loved(1, 1, 0));
        Check.due("the lowest", 6, x.loved(1, 1, 1));
        Check.due("0 for 2: 0 and 1", 2, x.loved(1, 2, 0));
        Check.due("the lowest", 0, x.loved(1, 2, 1));
        Check.due("how many: 0", 0, x.loved(2, 1, 0));
        Check.refused("the lowest of none", NONE, x, () -> x.loved(2, 1, 1));
        Sentences.of("BAD (himself, too); NO: one is GONE.");
        bounds("loved", new int[] {0, 1, 0}, new int[] {0, 1, 0, 4, 0, 1}, (y, a) -> y.loved(a[0], a[1], a[2]));
        Check.refused("himself", BAD, x, () -> x.loved(0, 1, 0));
        Check.refused("himself", BAD, x, () -> x.loved(1, 0, 1));
        x.leave(1);
        Check.refused("he is GONE", NO, x, () -> x.loved(0, 0, 0));
        Check.refused("she is GONE", NO, x, () -> x.loved(1, 1, 0));
    }

    private static void byTurns() {
        Sentences.of("`int byTurns(int i, int j, int n, int what)`: BY TURNS of i and j: what i owes (what = 0), the first GOOD (1; NONE).");
        DutyOnLeft x = Check.laid(SMALL);
        Check.due("4, half", 2, x.byTurns(0, 1, 1, 0));
        Check.due("he GIVES 20", 0, x.byTurns(0, 1, 1, 1));
        Check.due("1 GIVES her GRAVE", 1, x.byTurns(1, 0, 1, 0));
        Check.due("the GRAVE", 2, x.byTurns(1, 0, 1, 1));
        Check.due("a CHILD GIVES nothing", 0, x.byTurns(2, 0, 1, 0));
        Check.due("nothing", NONE, x.byTurns(2, 0, 1, 1));
        Sentences.of("the first GOOD (1; NONE). BAD (alike, too); NO: one is GONE.");
        bounds("byTurns", new int[] {2, 3, 1, 0}, new int[] {0, 4, 0, 4, 1, 4, 0, 1}, (y, a) -> y.byTurns(a[0], a[1], a[2], a[3]));
        for (int i = -1; i < 7; i++) {
            notTold("byTurns", new int[] {i, i, 1, 0}, (y, a) -> y.byTurns(a[0], a[1], a[2], a[3]));
        }
        x.leave(1);
        Check.refused("i is GONE", NO, x, () -> x.byTurns(1, 0, 1, 0));
        Check.refused("j is GONE", NO, x, () -> x.byTurns(0, 1, 1, 1));
    }

    private static void chairsAndYear() {
        Sentences.of("`int chairs(int k)`: CHAIRS. NONE; BAD.");
        DutyOnLeft x = Check.laid(SMALL);
        int[][] rows = {{0, 0}, {20, 1}, {21, 2}, {32, 2}, {33, 3}, {36, 3}, {37, 4}, {39, 4}, {40, NONE}, {999, NONE}};
        for (int[] row : rows) {
            Check.refused("chairs(" + row[0] + ")", row[1], x, () -> x.chairs(row[0]));
        }
        bounds("chairs", new int[] {0}, new int[] {0, 999}, (y, a) -> y.chairs(a[0]));
        Sentences.of("`int year(int z, int n, int what)`: A YEAR: GONE (what = 0), paid (1). BAD.");
        DutyOnLeft w = Check.laid("p0,99,0;p0,99,0;g0,0,5,0;g0,1,7,0;");
        Check.due("GONE", 2, w.year(0, 2, 0));
        Check.due("paid", 12, w.year(0, 2, 1));
        bounds("year", new int[] {7, 7, 0}, new int[] {0, 9999, 1, 40, 0, 1}, (y, a) -> y.year(a[0], a[1], a[2]));
    }

    private static void keepAndBack() {
        Sentences.of("`int keep()`: KEPT: how many. FULL.");
        DutyOnLeft x = Check.laid(SMALL);
        Check.due("one", 1, x.keep());
        x.leave(1);
        Check.due("two", 2, x.keep());
        Check.refused("three", FULL, x, x::keep);
        x.leave(2);
        Sentences.of("`int back()`: As KEPT last (it is KEPT no more then): how many are left;");
        Check.due("to the last one", 1, x.back());
        Check.due("1 is GONE", 0, x.person(1, 3));
        Check.due("2 is HERE", 1, x.person(2, 3));
        Check.due("to the first one", 0, x.back());
        Check.due("1 is HERE", 1, x.person(1, 3));
        Check.due("her coins", 50, x.person(1, 1));
        Sentences.of("how many are left; nothing is UNDONE then. NO.");
        Check.refused("none is left", NO, x, x::back);
        x.pack(0, true);
        x.keep();
        x.leave(1);
        Check.due("back", 0, x.back());
        Check.due("can be UNDONE", 0, x.count(8));
        Check.refused("undo", NO, x, x::undo);
        Check.due("it stands", 1, x.good(0, 4));
    }

    private static void count() {
        Sentences.of("`int count(int what)`: How many: 0 PERSONS, 1 GOODS, 2 GONE, 3 PACKED, 4 nobody's, 5 paid in all, 6 T, 7 SWORN, 8 that can be UNDONE,"
            + " 9 KEPT, 10 letters of THE TEXT.");
        DutyOnLeft x = Check.laid(SMALL);
        x.pack(0, true);
        x.pack(4, true);
        x.leave(0);
        x.leave(1);
        x.swear(2, 1);
        x.swear(2, 2);
        x.swear(2, 3);
        x.keep();
        x.keep();
        int[] wants = {3, 5, 2, 2, 2, 3, 5, 3, 4, 2, SMALL.length()};
        for (int k = 0; k < wants.length; k++) {
            int what = k;
            Check.refused("count(" + k + ")", wants[k], x, () -> x.count(what));
        }
        Sentences.of("10 letters of THE TEXT. BAD.");
        bounds("count", new int[] {0}, new int[] {0, 10}, (y, a) -> y.count(a[0]));
    }
}
