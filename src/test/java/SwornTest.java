/** Promises 21 to 24: what was sworn, what is false of it, what a love was worth by it. */
final class SwornTest {
    private static final int BAD = Check.BAD, NO = Check.NO, FULL = Check.FULL, NONE = Check.NONE;

    public static void main(String[] args) {
        swear();
        swearRefuses();
        forget();
        isFalse();
        isFalseNow();
        isFalseRefuses();
        loved();
        lovedNow();
        lovedRefuses();
        Check.end("SwornTest");
    }

    private static void swear() {
        DutyOnLeft x = new DutyOnLeft();
        int[] sums = {0, 999, 5, 5, 6, 7};
        for (int k = 0; k < 6; k++) {
            Check.due("swear, " + k, k + 1, x.swear(k % 2, sums[k]));
            Check.due("SWORN", k + 1, x.count(7));
        }
        Check.due("swear a seventh", FULL, x.swear(0, 5));
        Check.due("SWORN", 6, x.count(7));
        x.leave(1);
        Check.due("NO ahead of FULL", NO, x.swear(1, 5));
        Check.due("BAD ahead of FULL", BAD, x.swear(0, 1000));
        Check.due("nothing that can be undone but the leaving", 1, x.count(8));
    }

    private static void swearRefuses() {
        DutyOnLeft x = new DutyOnLeft();
        int[][] none = {{-1, 0}, {5, 0}, {0, -1}, {0, 1000}, {Integer.MAX_VALUE, 3}, {3, Integer.MIN_VALUE}};
        for (int[] call : none) {
            Check.due("swear(" + call[0] + ", " + call[1] + ")", BAD, x.swear(call[0], call[1]));
        }
        x.leave(1);
        Check.due("swear of one GONE", NO, x.swear(1, 0));
        Check.due("BAD ahead of NO", BAD, x.swear(1, 1000));
        Check.due("none SWORN", 0, x.count(7));
    }

    private static void forget() {
        DutyOnLeft x = new DutyOnLeft();
        Check.due("forget nothing", 0, x.forget());
        x.swear(0, 1);
        x.swear(1, 1);
        Check.due("forget two", 2, x.forget());
        Check.due("SWORN", 0, x.count(7));
        Check.due("isFalse of what is forgotten", BAD, x.isFalse(0));
        Check.due("swear again", 1, x.swear(2, 36));
        Check.due("the new one", 256, x.isFalse(0));
    }

    private static void isFalse() {
        DutyOnLeft x = Check.laid("p0,0,9;p1,0,0;g0,0,10,1;g0,0,10,1;g1,0,3,1;g3,0,7,1;g0,0,20,1;g2,0,1,0;v0,1,5;g0,1,10,0;");
        x.pack(4, true);
        Check.due("owes", 28, x.owes(0));
        int[][] oaths = {{28, 256}, {18, 3}, {31, 4}, {25, 8 + 32}, {8, 0}, {27, 0}};
        for (int k = 0; k < 6; k++) {
            x.swear(0, oaths[k][0]);
            Check.due("isFalse of " + oaths[k][0], oaths[k][1], x.isFalse(k));
        }
        DutyOnLeft y = Check.laid("p1,0,0;g0,0,1,0;g0,0,2,0;g3,0,1,0;g1,0,9,0;");
        y.swear(0, 0);
        Check.due("0 at least, by all but one", 256 + 7, y.isFalse(0));
        y.swear(0, 1);
        Check.due("without the DEBT, half", 8, y.isFalse(1));
    }

    private static void isFalseNow() {
        DutyOnLeft x = Check.laid("p0,0,9;p0,9,0;g0,0,10,1;g0,0,4,1;v0,1,5;");
        x.swear(0, 9);
        Check.due("without the first", 1, x.isFalse(0));
        x.pack(0, true);
        Check.due("as it stands now", 256, x.isFalse(0));
        x.leave(1);
        Check.due("one less LOVED", 0, x.isFalse(0));
        x.pack(0, false);
        x.comeBack(1);
        x.give(1, 1);
        x.give(0, 1);
        Check.due("his own only", 0, x.isFalse(0));
    }

    private static void isFalseRefuses() {
        DutyOnLeft x = new DutyOnLeft();
        Check.due("isFalse(0), none SWORN", BAD, x.isFalse(0));
        x.swear(1, 5);
        Check.due("isFalse(0)", 256, x.isFalse(0));
        Check.due("isFalse(1)", BAD, x.isFalse(1));
        Check.due("isFalse(-1)", BAD, x.isFalse(-1));
        Check.due("isFalse(6)", BAD, x.isFalse(6));
        x.leave(1);
        Check.due("isFalse of one GONE", NO, x.isFalse(0));
        x.comeBack(1);
        Check.due("isFalse of one HERE again", 0, x.isFalse(0));
    }

    private static void loved() {
        DutyOnLeft x = Check.laid("p0,0,0;p1,0,0;p4,0,0;g0,0,10,0;g0,1,10,0;g0,2,10,0;g1,2,12,0;v0,1,5;v0,2,3;v1,0,2;t10;");
        x.swear(0, 25);
        x.swear(1, 9);
        x.swear(2, 0);
        x.swear(0, 13);
        x.swear(0, 33);
        x.swear(0, 34);
        int[][] wants = {{0, 1, 1, 12}, {0, 2, 1, 10}, {1, 0, 2, 8}, {1, 2, 2, 6}, {2, 0, 5, 0}, {2, 1, 5, 0},
            {3, 1, 1, 0}, {3, 2, 0, NONE}, {4, 1, 1, 20}, {5, 1, 0, NONE}, {5, 2, 1, 19}};
        for (int[] want : wants) {
            String call = "loved(" + want[0] + ", " + want[1];
            Check.due(call + ", 0)", want[2], x.loved(want[0], want[1], 0));
            Check.due(call + ", 1)", want[3], x.loved(want[0], want[1], 1));
        }
        DutyOnLeft y = Check.laid("p0,0,0;p0,0,0;t1;g1,0,30,0;");
        y.swear(0, 0);
        Check.due("all of them", 21, y.loved(0, 1, 0));
        Check.due("the lowest", 0, y.loved(0, 1, 1));
    }

    private static void lovedNow() {
        DutyOnLeft x = Check.laid("p0,0,9;p0,0,0;p0,0,0;g0,0,10,1;v0,1,5;v0,2,3;");
        x.swear(0, 15);
        Check.due("the lowest", 2, x.loved(0, 1, 1));
        x.pack(0, true);
        Check.due("as it stands now", 12, x.loved(0, 1, 1));
        x.leave(2);
        Check.due("one less LOVED", 15, x.loved(0, 1, 1));
        Check.due("love stays", 5, x.love(0, 1));
    }

    private static void lovedRefuses() {
        DutyOnLeft x = new DutyOnLeft();
        Check.due("none SWORN", BAD, x.loved(0, 1, 0));
        x.swear(0, 9);
        x.swear(1, 9);
        int[][] none = {{0, 0, 0}, {1, 1, 0}, {0, -1, 0}, {0, 5, 0}, {0, 1, 2}, {0, 1, -1}, {2, 0, 0}, {-1, 1, 0}, {6, 1, 0}};
        for (int[] call : none) {
            Check.due("loved(" + call[0] + ", " + call[1] + ", " + call[2] + ")", BAD, x.loved(call[0], call[1], call[2]));
        }
        x.leave(1);
        Check.due("who SWORE is GONE", NO, x.loved(1, 0, 0));
        Check.due("who is LOVED is GONE", NO, x.loved(0, 1, 1));
        Check.due("himself ahead of GONE", BAD, x.loved(1, 1, 0));
        Check.due("BAD ahead of NO", BAD, x.loved(0, 1, 2));
    }
}
