/** The bounds of part 4: BY TURNS, CHAIRS, A YEAR, KEPT. One method for each sentence. */
final class BoundsYears {
    private static final int BAD = Check.BAD, NO = Check.NO, FULL = Check.FULL, NONE = Check.NONE;
    private static final int MIN = Integer.MIN_VALUE, MAX = Integer.MAX_VALUE;

    private BoundsYears() {
    }

    static void all() {
        oneToFourTurns();
        givesOneOrNothing();
        looksAhead();
        alikeForHim();
        whatIOwesThen();
        chairsForASum();
        fewestGoods();
        asIfLeft();
        yearOf40();
        asManyAsThereAre();
        leavesAlone();
        comesBack();
        draw();
        goneAndPaid();
        keptIsAll();
        swornAndTextStay();
        nothingUndone();
        twoAtMost();
    }

    private static void turns(DutyOnLeft x, int i, int j, int n, int owed, int gift) {
        String call = "byTurns(" + i + ", " + j + ", " + n;
        Check.due(call + ", 0)", owed, x.byTurns(i, j, n, 0));
        Check.due(call + ", 1)", gift, x.byTurns(i, j, n, 1));
    }

    private static void oneToFourTurns() {
        Sentences.of("BY TURNS of two, n (1 to 4) turns in all from now on, i's the first, then j's, and so on:");
        DutyOnLeft x = Check.laid("p0,99,9;p0,99,9;p0,99,9;g0,0,10,1;v0,1,3;");
        turns(x, 0, 1, 1, 3, 0);
        turns(x, 0, 1, 2, 13, NONE);
        turns(x, 0, 1, 3, 3, NONE);
        turns(x, 0, 1, 4, 13, NONE);
        turns(x, 1, 0, 1, 0, NONE);
        turns(x, 1, 0, 2, 10, NONE);
        turns(x, 1, 0, 3, 0, NONE);
        turns(x, 1, 0, 4, 10, NONE);
        turns(x, 2, 1, 1, 0, NONE);
        int[] none = {0, 5, -1, 6, MIN, MAX};
        for (int n : none) {
            Check.refused("n = " + n, BAD, x, () -> x.byTurns(0, 1, n, 0));
            Check.refused("n = " + n, BAD, x, () -> x.byTurns(0, 1, n, 1));
        }
        x.give(0, 1);
        turns(x, 0, 1, 1, 3, NONE);
        turns(x, 1, 0, 1, 0, 0);
        x.leave(2);
        x.give(0, 0);
        turns(x, 0, 1, 1, 3, 0);
    }

    private static void givesOneOrNothing() {
        Sentences.of("who has the turn GIVES one of his GOODS that is not PACKED to the other one, or nothing;");
        DutyOnLeft x = Check.laid("p0,0,9;p0,0,9;p0,0,0;g0,0,10,1;g0,0,4,1;g0,1,30,9;g0,2,40,0;");
        turns(x, 0, 1, 1, 4, 0);
        x.pack(0, true);
        turns(x, 0, 1, 1, 0, 1);
        x.pack(1, true);
        turns(x, 0, 1, 1, 0, NONE);
        turns(x, 0, 1, 2, 30, NONE);
        x.pack(2, true);
        turns(x, 0, 1, 2, 0, NONE);
        turns(x, 0, 1, 4, 0, NONE);
        DutyOnLeft y = Check.laid("p0,0,0;p0,0,0;g2,0,5,0;g0,0,14,0;g1,0,2,0;");
        turns(y, 0, 1, 1, 12, 0);
        turns(y, 0, 1, 3, 12, NONE);
        DutyOnLeft z = Check.laid("p0,0,0;p0,0,0;g1,0,5,0;");
        turns(z, 0, 1, 1, 0, NONE);
        turns(z, 1, 0, 4, 0, NONE);
        turns(Check.laid("p0,0,0;p0,0,0;"), 0, 1, 4, 0, NONE);
        turns(Check.laid("p0,0,0;p0,0,0;" + "g0,0,1,0;".repeat(8)), 0, 1, 1, 7, 0);
    }

    private static void looksAhead() {
        Sentences.of("each looks ahead, and would owe least himself at the end, for leaving alone;");
        DutyOnLeft x = Check.laid("p0,0,0;p0,0,0;g0,0,10,0;g0,0,4,0;g0,1,7,0;");
        turns(x, 0, 1, 1, 4, 0);
        turns(x, 0, 1, 2, 14, 0);
        turns(x, 1, 0, 1, 0, 2);
        turns(x, 1, 0, 2, 10, 2);
        DutyOnLeft y = Check.laid("p0,0,0;p4,0,0;g0,0,2,0;v0,1,9;");
        Check.due("with another one he would owe less", 6, y.owesWith(0, 1));
        turns(y, 0, 1, 1, 9, 0);
        turns(y, 0, 1, 2, 9, 0);
        turns(y, 1, 0, 2, 0, NONE);
        turns(y, 1, 0, 1, 0, NONE);
    }

    private static void alikeForHim() {
        Sentences.of("of what is alike for him he GIVES nothing, else the lowest:");
        turns(Check.laid("p0,0,0;p0,0,0;g0,0,7,0;g0,0,7,0;"), 0, 1, 1, 7, 0);
        turns(Check.laid("p0,0,0;p0,0,0;g0,0,6,0;g0,0,7,0;g0,0,7,0;"), 0, 1, 1, 13, 1);
        turns(Check.laid("p0,0,0;p0,0,0;g0,0,7,0;g1,0,7,0;"), 0, 1, 1, 0, NONE);
        turns(Check.laid("p4,0,0;p0,0,0;g0,0,2,0;"), 0, 1, 1, 0, NONE);
        turns(Check.laid("p0,0,0;p4,0,0;g0,1,1,0;g0,1,2,0;"), 0, 1, 2, 1, NONE);
        turns(Check.laid("p0,0,0;p4,0,0;g0,1,2,0;g0,1,1,0;"), 0, 1, 2, 2, NONE);
        turns(Check.laid("p0,0,0;p4,0,0;g0,1,2,0;"), 0, 1, 2, 0, NONE);
        turns(Check.laid("p0,0,0;p0,0,0;g3,0,1,0;"), 0, 1, 1, 0, NONE);
    }

    private static void whatIOwesThen() {
        Sentences.of("what i owes then; what he GIVES on the first (none: nothing).");
        DutyOnLeft x = Check.laid("p1,0,0;p2,0,0;g0,0,20,0;g0,1,10,0;g0,1,6,0;v0,1,4;v1,0,2;t5;");
        turns(x, 0, 1, 1, 1, 0);
        turns(x, 1, 0, 1, 2, 1);
        turns(x, 0, 1, 2, 6, 0);
        String before = Check.whole(x);
        x.byTurns(0, 1, 4, 1);
        Check.same("nothing is GIVEN in truth", before, Check.whole(x));
        Check.refused("nothing else can be asked", BAD, x, () -> x.byTurns(0, 1, 1, 2));
        Check.refused("nothing else can be asked", BAD, x, () -> x.byTurns(0, 1, 1, -1));
    }

    private static void chairs(DutyOnLeft x, int... rows) {
        for (int k = 0; k + 1 < rows.length; k += 2) {
            Check.due("chairs(" + rows[k] + ")", rows[k + 1], x.chairs(rows[k]));
        }
    }

    private static void chairsForASum() {
        Sentences.of("CHAIRS for a sum k (0 to 999):");
        DutyOnLeft x = Check.laid("p0,0,0;" + "g2,0,40,0;".repeat(8));
        chairs(x, 0, 0, 1, 1, 120, 1, 121, 2, 840, 7, 841, 8, 960, 8, 961, NONE, 998, NONE, 999, NONE);
        int[] none = {-1, 1000, 1001, MIN, MAX};
        for (int k : none) {
            Check.refused("chairs(" + k + ")", BAD, x, () -> x.chairs(k));
        }
        DutyOnLeft y = Check.laid("p0,0,0;g1,0,40,0;");
        chairs(y, 0, 0, 1, NONE, 999, NONE, 1000, BAD);
    }

    private static void fewestGoods() {
        Sentences.of("the fewest GOODS of those who are HERE (PACKED or not) that count k or more together,");
        DutyOnLeft x = Check.laid("p0,99,9;p0,99,9;g0,0,10,1;g0,1,25,1;g0,1,15,1;g0,0,30,1;");
        chairs(x, 30, 1, 31, 2, 55, 2, 56, 3, 70, 3, 71, 4, 80, 4, 81, NONE);
        x.pack(1, true);
        x.pack(3, true);
        chairs(x, 30, 1, 55, 2, 80, 4, 81, NONE);
        x.leave(1);
        chairs(x, 30, 1, 31, 2, 40, 2, 41, NONE);
        x.comeBack(1);
        chairs(x, 40, 2, 55, 2, 65, 3, 66, NONE);
        x.leave(0);
        chairs(x, 25, 1, 26, NONE);
        x.leave(1);
        chairs(x, 0, 0, 1, NONE);
    }

    private static void asIfLeft() {
        Sentences.of("each as if it were LEFT; none.");
        DutyOnLeft x = Check.laid("p0,0,9;p4,0,0;g2,0,5,0;g3,0,9,0;g0,1,6,0;g1,0,40,1;t5;");
        chairs(x, 15, 1, 16, 2, 21, 2, 22, 3, 25, 3, 26, NONE);
        x.pack(3, true);
        chairs(x, 25, 3, 26, NONE);
        DutyOnLeft y = Check.laid("p0,0,0;g3,0,1,0;g3,0,1,0;");
        chairs(y, 0, 0, 1, NONE);
        DutyOnLeft z = Check.laid("p0,0,0;g3,0,3,0;g3,0,3,0;");
        chairs(z, 1, 1, 2, 2, 3, NONE);
        chairs(Check.laid("p0,0,0;"), 0, 0, 1, NONE);
    }

    private static void years(DutyOnLeft x, int z, int[] gone, int[] paid) {
        for (int n = 1; n <= gone.length; n++) {
            Check.due("year(" + z + ", " + n + ", 0)", gone[n - 1], x.year(z, n, 0));
            Check.due("year(" + z + ", " + n + ", 1)", paid[n - 1], x.year(z, n, 1));
        }
    }

    private static void yearOf40() {
        Sentences.of("A YEAR by z (0 to 9999) of n (1 to 40) steps from now on:");
        DutyOnLeft x = Check.laid("p0,99,0;g0,0,10,0;");
        for (int n = 1; n <= 40; n++) {
            Check.due("z 0, n " + n, n % 2, x.year(0, n, 0));
            Check.due("z 9999, n " + n, n % 2, x.year(9999, n, 0));
        }
        int[][] none = {{-1, 1}, {10000, 1}, {0, 0}, {0, 41}, {0, -1}, {MIN, 1}, {MAX, 1}, {0, MIN}, {0, MAX}, {-1, 0}, {10000, 41}};
        for (int[] call : none) {
            Check.refused("year(" + call[0] + ", " + call[1] + ", 0)", BAD, x, () -> x.year(call[0], call[1], 0));
            Check.refused("year(" + call[0] + ", " + call[1] + ", 1)", BAD, x, () -> x.year(call[0], call[1], 1));
        }
        x.leave(0);
        Check.due("from now on: he comes back", 0, x.year(0, 1, 0));
        Check.due("from now on: he leaves again", 1, x.year(0, 2, 0));
        Check.due("with nothing", 0, x.year(0, 2, 1));
    }

    // PERSON i is worth 1, 2, 4, .. : what is paid tells who has left.
    private static String worths(int many) {
        StringBuilder text = new StringBuilder("p0,99,0;".repeat(many));
        for (int i = 0; i < many; i++) {
            text.append("g0,").append(i).append(',').append(1 << i).append(",0;");
        }
        return text.toString();
    }

    private static void asManyAsThereAre() {
        Sentences.of("in step k (0 first) PERSON DRAW modulo as many as there are");
        int[][] rows = {{1, 0, 1, 1, 1}, {1, 0, 2, 0, 1}, {1, 0, 40, 0, 1}, {1, 1, 1, 1, 1}, {1, 1, 2, 0, 1}, {1, 1, 40, 0, 1},
            {1, 4999, 1, 1, 1}, {1, 4999, 2, 0, 1}, {1, 4999, 40, 0, 1}, {1, 9999, 1, 1, 1}, {1, 9999, 2, 0, 1}, {1, 9999, 40, 0, 1},
            {2, 0, 1, 1, 1}, {2, 0, 2, 2, 3}, {2, 0, 40, 0, 3}, {2, 1, 1, 1, 1}, {2, 1, 2, 0, 1}, {2, 1, 40, 0, 3}, {2, 4999, 1, 1, 2},
            {2, 4999, 2, 2, 3}, {2, 4999, 40, 2, 3}, {2, 9999, 1, 1, 1}, {2, 9999, 2, 0, 1}, {2, 9999, 40, 2, 3}, {3, 0, 1, 1, 1},
            {3, 0, 2, 2, 3}, {3, 0, 40, 2, 7}, {3, 1, 1, 1, 1}, {3, 1, 2, 0, 1}, {3, 1, 40, 2, 7}, {3, 4999, 1, 1, 2}, {3, 4999, 2, 0, 2},
            {3, 4999, 40, 2, 7}, {3, 9999, 1, 1, 2}, {3, 9999, 2, 2, 6}, {3, 9999, 40, 2, 7}, {4, 0, 1, 1, 1}, {4, 0, 2, 2, 3},
            {4, 0, 40, 0, 15}, {4, 1, 1, 1, 4}, {4, 1, 2, 0, 4}, {4, 1, 40, 4, 15}, {4, 4999, 1, 1, 2}, {4, 4999, 2, 2, 3},
            {4, 4999, 40, 2, 15}, {4, 9999, 1, 1, 1}, {4, 9999, 2, 0, 1}, {4, 9999, 40, 2, 15}, {5, 0, 1, 1, 1}, {5, 0, 2, 0, 1},
            {5, 0, 40, 2, 31}, {5, 1, 1, 1, 1}, {5, 1, 2, 2, 5}, {5, 1, 40, 2, 31}, {5, 4999, 1, 1, 4}, {5, 4999, 2, 2, 12},
            {5, 4999, 40, 4, 31}, {5, 9999, 1, 1, 4}, {5, 9999, 2, 2, 6}, {5, 9999, 40, 4, 31}, {6, 0, 1, 1, 1}, {6, 0, 2, 2, 3},
            {6, 0, 40, 2, 63}, {6, 1, 1, 1, 1}, {6, 1, 2, 0, 1}, {6, 1, 40, 2, 63}, {6, 4999, 1, 1, 2}, {6, 4999, 2, 2, 18},
            {6, 4999, 40, 2, 63}, {6, 9999, 1, 1, 16}, {6, 9999, 2, 2, 20}, {6, 9999, 40, 2, 63}};
        for (int[] row : rows) {
            DutyOnLeft x = Check.laid(worths(row[0]));
            String call = row[0] + " persons: year(" + row[1] + ", " + row[2];
            Check.due(call + ", 0)", row[3], x.year(row[1], row[2], 0));
            Check.due(call + ", 1)", row[4], x.year(row[1], row[2], 1));
        }
        DutyOnLeft x = Check.laid(worths(6));
        for (int i = 1; i < 6; i++) {
            x.leave(i);
        }
        years(x, 0, new int[] {6, 5, 4}, new int[] {1, 1, 1});
    }

    // Draws of z 0 modulo 2: 0, 1, 1, 0, 0, 1, 0, 1, 0, 1.
    private static void leavesAlone() {
        Sentences.of("leaves alone, if he is HERE and can,");
        years(Check.laid("p0,99,0;p0,99,0;v0,1,9;v1,0,5;"), 0, new int[] {1, 2, 1, 0, 1, 2}, new int[] {9, 9, 9, 9, 18, 18});
        years(Check.laid("p0,4,0;p0,99,0;g0,0,5,0;g0,1,7,0;"), 0, new int[] {0, 1, 0, 0, 0, 1}, new int[] {0, 7, 7, 7, 7, 7});
        years(Check.laid("p0,5,0;p0,99,0;g0,0,5,0;g0,1,7,0;"), 0, new int[] {1, 2, 1, 0, 1, 2}, new int[] {5, 12, 12, 12, 12, 12});
        years(Check.laid("p0,0,0;p3,0,0;"), 0, new int[] {0, 1, 0, 0, 0, 1}, new int[] {0, 0, 0, 0, 0, 0});
        years(Check.laid("p3,0,0;p0,9,0;g0,1,7,0;"), 0, new int[] {1, 2, 1, 0, 1, 2}, new int[] {0, 7, 7, 7, 7, 7});
        years(Check.laid("p0,10,0;p0,0,0;v0,1,6;"), 0, new int[] {1, 2, 1, 0, 0, 1, 2, 1, 0, 1}, new int[] {6, 6, 6, 6, 6, 6, 6, 6, 6, 6});
    }

    private static void comesBack() {
        Sentences.of("or comes back, if he is GONE and can,");
        years(Check.laid("p2,50,0;p0,0,0;g0,0,20,0;v0,1,10;"), 0, new int[] {1, 2, 1, 0, 1, 2, 1, 0, 1, 2},
            new int[] {15, 15, 15, 30, 35, 35, 40, 40, 45, 45});
        years(Check.laid("p2,15,0;p0,0,0;g0,0,20,0;v0,1,10;"), 0, new int[] {1, 2, 1, 1, 1, 2, 2, 1, 1, 2},
            new int[] {15, 15, 15, 15, 15, 15, 15, 15, 15, 15});
        DutyOnLeft x = Check.laid("p2,99,0;p0,0,0;g0,0,20,0;");
        x.leave(0);
        years(x, 0, new int[] {0, 1, 0, 1}, new int[] {10, 10, 10, 10});
        DutyOnLeft y = Check.laid("p3,0,0;p0,0,0;");
        y.leaveBoth(0, 1);
        years(y, 0, new int[] {1, 0, 0, 1}, new int[] {0, 0, 0, 0});
    }

    // Draws modulo 6 as a plain reckoner tells them; x times x of z 9999 is far beyond what an int holds.
    private static void draw() {
        Sentences.of("DRAW being ((x times x) modulo 65521) by 8, cut, x 7919 z, 6151 k and 1 together:");
        DutyOnLeft x = Check.laid(worths(6));
        years(x, 0, new int[] {1, 2, 3, 4, 3, 2, 3, 2, 1, 2}, new int[] {1, 3, 11, 27, 27, 27, 31, 31, 31, 63});
        years(x, 1, new int[] {1, 0, 1, 0, 1, 2, 1, 2, 3, 2}, new int[] {1, 1, 1, 1, 1, 33, 33, 49, 57, 57});
        years(x, 8273, new int[] {1, 2, 1, 2, 3, 4, 5, 6, 5, 4}, new int[] {2, 18, 18, 26, 27, 31, 63, 63, 63, 63});
        years(x, 9999, new int[] {1, 2, 3, 4, 3, 2, 3, 4, 3, 2}, new int[] {16, 20, 21, 29, 29, 29, 31, 31, 31, 31});
    }

    private static void goneAndPaid() {
        Sentences.of("how many are GONE then; what was paid in all in these steps.");
        DutyOnLeft x = Check.laid(worths(6));
        Check.due("paid ahead of them", 32, x.leave(5));
        String before = Check.whole(x);
        years(x, 0, new int[] {2, 3, 4, 5, 4, 3, 4, 3, 2, 1}, new int[] {1, 3, 11, 27, 27, 27, 31, 31, 31, 31});
        Check.same("nothing of it comes true", before, Check.whole(x));
        Check.due("one can be UNDONE", 0, x.undo());
        Check.refused("nothing else can be asked", BAD, x, () -> x.year(0, 1, 2));
        Check.refused("nothing else can be asked", BAD, x, () -> x.year(0, 1, -1));
    }

    private static void keptIsAll() {
        Sentences.of("KEPT is all as it stands,");
        DutyOnLeft x = Check.laid("p2,99,9;p0,99,9;p0,99,9;g0,0,20,5;g0,0,8,4;g0,1,9,2;v0,1,10;");
        x.pack(0, true);
        Check.due("the BRIDE leaves", 9, x.leave(0));
        x.give(2, 2);
        x.leave(1);
        String before = Check.standing(x);
        Check.due("keep", 1, x.keep());
        x.comeBack(1);
        x.comeBack(0);
        x.pack(0, false);
        x.give(2, 1);
        x.leave(0);
        x.comeBack(0);
        x.leaveBoth(0, 2);
        Check.same("all is otherwise", "true", "" + !before.equals(Check.standing(x)));
        Check.due("back", 0, x.back());
        Check.same("all as it stood", before, Check.standing(x));
        Check.due("what the BRIDE paid when she left last, too", 9, x.comeBack(0));
        Check.due("her coins", 81, x.person(0, 1));
    }

    private static void swornAndTextStay() {
        Sentences.of("but what is SWORN and THE TEXT (these stay by back(),");
        DutyOnLeft x = new DutyOnLeft();
        x.swear(0, 19);
        x.write('t');
        x.keep();
        x.swear(1, 5);
        x.write('0');
        x.write(';');
        Check.due("back", 0, x.back());
        Check.due("SWORN", 2, x.count(7));
        Check.due("what he swore", 256, x.isFalse(1));
        Check.due("letters", 3, x.count(10));
        Check.due("fault", 0, x.fault());
        x.keep();
        x.forget();
        x.wipe();
        x.back();
        Check.due("none SWORN", 0, x.count(7));
        Check.due("no letters", 0, x.count(10));
    }

    private static void nothingUndone() {
        Sentences.of("behind which nothing can be UNDONE):");
        DutyOnLeft x = new DutyOnLeft();
        x.pack(0, true);
        x.pack(3, true);
        x.keep();
        Check.due("keeping leaves what can be UNDONE", 2, x.count(8));
        x.leave(1);
        Check.due("can be UNDONE", 3, x.count(8));
        Check.due("back", 0, x.back());
        Check.due("nothing can be", 0, x.count(8));
        Check.refused("undo", NO, x, x::undo);
        Check.due("done ahead of keep, it stands", 1, x.good(3, 4));
        x.leave(1);
        Check.due("what is done from then on can be", 0, x.undo());
        Check.due("as it stood behind back", 1, x.person(1, 3));
        Check.refused("and no more", NO, x, x::undo);
        x.pack(0, false);
        Check.refused("a back that is refused leaves what can be UNDONE", NO, x, x::back);
        Check.due("undo", 0, x.undo());
    }

    private static void twoAtMost() {
        Sentences.of(": 2 at most.");
        DutyOnLeft x = Check.laid("p0,99,9;p0,99,9;g0,0,1,1;g0,0,1,2;g0,0,1,4;");
        Check.due("one", 1, x.keep());
        x.pack(0, true);
        Check.due("two", 2, x.keep());
        x.pack(1, true);
        Check.refused("three", FULL, x, x::keep);
        x.pack(2, true);
        Check.due("back to the second", 1, x.back());
        Check.due("0 was PACKED, not 1", 3, x.pack(1, true));
        Check.due("room again", 2, x.keep());
        Check.refused("three", FULL, x, x::keep);
        Check.due("back", 1, x.back());
        Check.due("0 and 1 were PACKED, not 2", 7, x.pack(2, true));
        Check.due("back to the first", 0, x.back());
        Check.due("none PACKED", 0, x.count(3));
        Check.refused("none KEPT", NO, x, x::back);
        for (int round = 0; round < 5; round++) {
            x.give(0, 1 - x.good(0, 1));
            int whose = x.good(0, 1);
            Check.due("keep", 1, x.keep());
            x.leave(0);
            Check.due("keep", 2, x.keep());
            x.leave(1);
            Check.due("back", 1, x.back());
            Check.due("one GONE", 1, x.count(2));
            Check.due("back", 0, x.back());
            Check.due("none GONE", 0, x.count(2));
            Check.due("whose", whose, x.good(0, 1));
        }
    }
}
