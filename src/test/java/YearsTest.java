/** Promises 25 to 30: two who give away by turns, chairs, years, families kept, counts. */
final class YearsTest {
    private static final int BAD = Check.BAD, NO = Check.NO, FULL = Check.FULL, NONE = Check.NONE;

    public static void main(String[] args) {
        byTurns();
        byTurnsAlike();
        byTurnsRefuses();
        chairs();
        chairsOfThoseHere();
        year();
        yearByHand();
        yearRefuses();
        keep();
        back();
        backUndoesNothing();
        count();
        Check.end("YearsTest");
    }

    private static void turns(DutyOnLeft x, int i, int j, int[] owed, int[] gifts) {
        for (int n = 1; n <= owed.length; n++) {
            String call = "byTurns(" + i + ", " + j + ", " + n;
            Check.due(call + ", 0)", owed[n - 1], x.byTurns(i, j, n, 0));
            Check.due(call + ", 1)", gifts[n - 1], x.byTurns(i, j, n, 1));
        }
    }

    private static void byTurns() {
        // One good: who has the last turn is rid of it.
        DutyOnLeft x = Check.laid("p0,0,9;p0,0,9;g0,0,10,1;v0,1,3;");
        turns(x, 0, 1, new int[] {3, 13, 3, 13}, new int[] {0, NONE, NONE, NONE});
        turns(x, 1, 0, new int[] {0, 10, 0, 10}, new int[] {NONE, NONE, NONE, NONE});
        x.pack(0, true);
        turns(x, 0, 1, new int[] {3, 3, 3, 3}, new int[] {NONE, NONE, NONE, NONE});
        // The dearest one goes, a DEBT is kept, a GRAVE is given, too.
        DutyOnLeft y = Check.laid("p0,0,0;p0,0,0;g0,0,10,0;g0,0,12,0;g1,0,5,0;g2,0,5,0;");
        turns(y, 0, 1, new int[] {17, 32, 17, 32}, new int[] {3, NONE, NONE, NONE});
        // Both have some: he gives 10, gets 7 or 10 back, and so on.
        DutyOnLeft z = Check.laid("p0,0,0;p0,0,0;g0,0,10,0;g0,0,4,0;g0,1,7,0;");
        turns(z, 0, 1, new int[] {4, 14, 4, 14}, new int[] {0, 0, 0, 0});
    }

    private static void byTurnsAlike() {
        DutyOnLeft x = Check.laid("p0,0,0;p0,0,0;g0,0,7,0;g0,0,7,0;g0,1,1,0;");
        Check.due("the lowest of two alike", 0, x.byTurns(0, 1, 1, 1));
        Check.due("owes the other one", 7, x.byTurns(0, 1, 1, 0));
        DutyOnLeft y = Check.laid("p0,0,0;p0,0,0;g0,0,7,0;g1,0,17,0;");
        Check.due("nothing, where nothing is owed anyhow", NONE, y.byTurns(0, 1, 1, 1));
        DutyOnLeft z = Check.laid("p4,0,0;p0,0,0;g0,0,2,0;");
        Check.due("nothing, where it is cut anyhow", NONE, z.byTurns(0, 1, 1, 1));
        Check.due("nothing changes", 0, z.good(0, 1));
    }

    private static void byTurnsRefuses() {
        DutyOnLeft x = new DutyOnLeft();
        int[][] none = {{0, 0, 1, 0}, {-1, 0, 1, 0}, {0, -1, 1, 0}, {5, 0, 1, 0}, {0, 5, 1, 0}, {0, 1, 0, 0}, {0, 1, 5, 0}, {0, 1, -1, 0},
            {0, 1, 1, 2}, {0, 1, 1, -1}};
        for (int[] call : none) {
            Check.due("byTurns(" + call[0] + ", " + call[1] + ", " + call[2] + ", " + call[3] + ")", BAD,
                x.byTurns(call[0], call[1], call[2], call[3]));
        }
        x.leave(1);
        Check.due("the first is GONE", NO, x.byTurns(1, 0, 1, 0));
        Check.due("the second is GONE", NO, x.byTurns(0, 1, 1, 1));
        Check.due("alike ahead of GONE", BAD, x.byTurns(1, 1, 1, 0));
        Check.due("BAD ahead of NO", BAD, x.byTurns(0, 1, 5, 0));
    }

    private static void chairs() {
        DutyOnLeft x = Check.laid("p0,0,0;p0,0,0;g0,0,10,0;g1,1,40,0;g2,1,4,0;g3,0,9,0;");
        int[][] wants = {{0, 0}, {1, 1}, {12, 1}, {13, 2}, {22, 2}, {23, 3}, {26, 3}, {27, NONE}, {999, NONE}, {-1, BAD}, {1000, BAD},
            {Integer.MAX_VALUE, BAD}, {Integer.MIN_VALUE, BAD}};
        for (int[] want : wants) {
            Check.due("chairs(" + want[0] + ")", want[1], x.chairs(want[0]));
        }
        DutyOnLeft y = Check.laid("p0,0,0;" + "g2,0,40,0;".repeat(8));
        Check.due("eight of 120", 8, y.chairs(960));
        Check.due("seven of 120", 7, y.chairs(840));
        Check.due("more than all", NONE, y.chairs(961));
    }

    private static void chairsOfThoseHere() {
        DutyOnLeft x = Check.laid("p0,99,9;p0,99,9;g0,0,10,1;g0,1,20,1;g0,1,15,1;");
        x.pack(1, true);
        Check.due("PACKED counts, too", 1, x.chairs(20));
        Check.due("all", 3, x.chairs(45));
        x.leave(1);
        Check.due("of one GONE", NONE, x.chairs(11));
        Check.due("of one HERE", 1, x.chairs(10));
        x.leave(0);
        Check.due("nobody HERE", NONE, x.chairs(1));
        Check.due("nothing asked", 0, x.chairs(0));
        x.comeBack(1);
        Check.due("nobody's counts not", NONE, x.chairs(21));
        Check.due("what came back counts", 1, x.chairs(20));
    }

    private static void year() {
        DutyOnLeft x = new DutyOnLeft();
        int[][] wants = {{5, 41, 0, BAD}, {5, 0, 0, BAD}, {5, -1, 0, BAD}, {-1, 4, 0, BAD}, {10000, 4, 0, BAD}, {5, 4, 2, BAD}, {5, 4, -1, BAD},
            {5, 40, 0, 2}, {5, 40, 1, 37}};
        for (int[] want : wants) {
            String call = "year(" + want[0] + ", " + want[1] + ", " + want[2] + ")";
            Check.due(call, want[3], x.year(want[0], want[1], want[2]));
        }
        Check.due("nobody left in truth", 0, x.count(2));
        Check.due("nothing paid in truth", 0, x.count(5));
        Check.due("nothing to be undone", 0, x.count(8));
    }

    // Draws of z = 0: k 0: 1 / 8 = 0; k 1: 6152 x 6152 = 37847104, modulo 65521 = 41487, by 8 = 5185; k 2: 12303 x 12303
    // = 151363809, modulo 65521 = 10299, by 8 = 1287; of z = 9999: x goes beyond what an int holds when it is squared.
    private static void yearByHand() {
        DutyOnLeft x = Check.laid("p0,99,0;p2,99,0;p0,0,0;g0,0,10,0;g0,1,20,0;g0,2,9,0;v0,1,5;v1,0,6;");
        Check.due("0 leaves", 1, x.year(0, 1, 0));
        Check.due("he pays", 15, x.year(0, 1, 1));
        Check.due("then 1 leaves", 2, x.year(0, 2, 0));
        Check.due("she pays half", 25, x.year(0, 2, 1));
        Check.due("then 0 comes back", 1, x.year(0, 3, 0));
        Check.due("for nothing", 25, x.year(0, 3, 1));
        x.leave(1);
        x.leave(0);
        Check.due("from now on: 0 comes back", 1, x.year(0, 1, 0));
        Check.due("from now on: 1 comes back and pays once more", 13, x.year(0, 2, 1));
        Check.due("paid before does not count", 0, x.year(0, 1, 1));
        DutyOnLeft y = Check.laid("p0,0,0;g0,0,10,0;");
        Check.due("who can not leave stays", 0, y.year(7, 40, 0));
        Check.due("and pays nothing", 0, y.year(7, 40, 1));
        DutyOnLeft z = Check.laid("p0,0,0;");
        Check.due("out and in, 39 times", 1, z.year(9999, 39, 0));
        Check.due("out and in, 40 times", 0, z.year(9999, 40, 0));
    }

    private static void yearRefuses() {
        DutyOnLeft x = Check.laid("p0,0,0;p3,0,0;");
        Check.due("no grandmother is left alone", 0, x.year(0, 1, 0));
        DutyOnLeft y = Check.laid("p2,5,0;g0,0,10,0;");
        Check.due("a bride who can not pay once more stays GONE", 1, y.year(3, 40, 0));
        Check.due("what she paid", 5, y.year(3, 40, 1));
    }

    private static void keep() {
        DutyOnLeft x = new DutyOnLeft();
        Check.due("keep", 1, x.keep());
        Check.due("KEPT", 1, x.count(9));
        Check.due("keep again", 2, x.keep());
        Check.due("keep a third", FULL, x.keep());
        Check.due("KEPT", 2, x.count(9));
        x.pack(0, true);
        Check.due("back", 1, x.back());
        Check.due("keep behind back", 2, x.keep());
        Check.due("undo behind keep", NO, x.undo());
        x.pack(0, true);
        x.back();
        x.keep();
        x.pack(0, true);
        Check.due("keeping leaves what can be UNDONE", 0, x.undo());
    }

    private static void back() {
        DutyOnLeft x = new DutyOnLeft();
        Check.due("none KEPT", NO, x.back());
        String first = Check.standing(x);
        x.keep();
        x.pack(0, true);
        x.give(2, 0);
        x.leave(4);
        String second = Check.standing(x);
        x.keep();
        x.leave(0);
        x.comeBack(4);
        x.swear(1, 5);
        x.write('p');
        Check.due("back", 1, x.back());
        Check.same("as KEPT last", second, Check.standing(x));
        Check.due("what is SWORN stays", 1, x.count(7));
        Check.due("THE TEXT stays", 1, x.count(10));
        Check.due("KEPT", 1, x.count(9));
        Check.due("the bride pays what she paid when she left last", 8, x.comeBack(4));
        Check.due("back again", 0, x.back());
        Check.same("as KEPT first", first, Check.standing(x));
        Check.due("none KEPT", NO, x.back());
        Check.same("nothing changed", first, Check.standing(x));
    }

    private static void backUndoesNothing() {
        DutyOnLeft x = new DutyOnLeft();
        x.pack(0, true);
        x.keep();
        x.pack(3, true);
        Check.due("can be UNDONE", 2, x.count(8));
        x.back();
        Check.due("nothing can be UNDONE", 0, x.count(8));
        Check.due("undo", NO, x.undo());
        Check.due("PACKED ahead of keep", 1, x.good(0, 4));
        Check.due("not PACKED behind it", 0, x.good(3, 4));
        x.pack(3, true);
        Check.due("a new one can be", 0, x.undo());
        x.keep();
        x.keep();
        x.pack(3, true);
        Check.due("BACK takes one", 1, x.back());
        Check.due("NO leaves what can be UNDONE", 0, x.back());
        x.pack(3, true);
        x.back();
        Check.due("can be UNDONE", 1, x.count(8));
    }

    private static void count() {
        DutyOnLeft x = new DutyOnLeft();
        x.pack(0, true);
        x.pack(3, true);
        x.leave(1);
        x.leave(4);
        x.swear(0, 1);
        x.swear(0, 2);
        x.swear(0, 3);
        x.keep();
        x.write('p');
        x.write('p');
        int[] wants = {5, 6, 2, 2, 1, 10, 8, 3, 4, 1, 2};
        for (int k = 0; k < wants.length; k++) {
            Check.due("count(" + k + ")", wants[k], x.count(k));
        }
        int[] none = {-1, 11, 12, Integer.MAX_VALUE, Integer.MIN_VALUE};
        for (int k : none) {
            Check.due("count(" + k + ")", BAD, x.count(k));
        }
    }
}
