/** The bounds of part 4: SWORN, FALSE, LOVED. One method for each sentence. */
final class BoundsSworn {
    private static final int BAD = Check.BAD, NO = Check.NO, FULL = Check.FULL, NONE = Check.NONE;

    private BoundsSworn() {
    }

    static void all() {
        sixAtMost();
        heSwears();
        asItStandsWhenAsked();
        falseGoods();
        whatHeOwes();
        howManyLoves();
        ifHeLoved();
        lowestOrNone();
    }

    private static void sixAtMost() {
        Sentences.of("4 SWORN (6 at most)");
        DutyOnLeft x = new DutyOnLeft();
        for (int k = 0; k < 6; k++) {
            Check.due("swear", k + 1, x.swear(k % 5, k));
        }
        Check.refused("a seventh", FULL, x, () -> x.swear(0, 0));
        Check.refused("a seventh of another", FULL, x, () -> x.swear(4, 999));
        Check.due("the sixth is asked", 0, x.isFalse(5));
        Check.refused("there is no seventh", BAD, x, () -> x.isFalse(6));
        Check.due("forget", 6, x.forget());
        Check.due("room again", 1, x.swear(0, 19));
        Check.due("the new one", 256, x.isFalse(0));
        Check.refused("the old ones are no more", BAD, x, () -> x.isFalse(1));
    }

    private static void heSwears() {
        Sentences.of("is that PERSON i HERE swears he would pay k (0 to 999) for leaving now alone");
        DutyOnLeft x = Check.laid("p0,99,0;p0,99,0;" + "g2,0,40,0;".repeat(8));
        Check.due("0", 1, x.swear(1, 0));
        Check.due("999", 2, x.swear(0, 999));
        Check.refused("-1", BAD, x, () -> x.swear(0, -1));
        Check.refused("1000", BAD, x, () -> x.swear(0, 1000));
        Check.due("1 more than none", 3, x.swear(0, 1));
        Check.due("998", 4, x.swear(0, 998));
        x.leave(1);
        Check.refused("one GONE", NO, x, () -> x.swear(1, 0));
        x.comeBack(1);
        Check.due("one HERE again", 5, x.swear(1, 0));
        DutyOnLeft y = Check.laid("p0,0,0;p0,0,0;" + "g2,0,40,0;".repeat(8) + "v0,1,20;t10;");
        y.swear(0, 980);
        y.swear(0, 970);
        Check.due("alone: all the love, though he has no coins", 256, y.isFalse(0));
        Check.due("not with another one", 0, y.isFalse(1));
        DutyOnLeft z = Check.laid("p0,0,0;" + "g2,0,40,0;".repeat(8) + "t11;");
        Check.due("he may owe more than can be SWORN", 1056, z.owes(0));
        z.swear(0, 924);
        Check.due("each one GRAVE less is 924", 255, z.isFalse(0));
    }

    private static void asItStandsWhenAsked() {
        Sentences.of("(now: as it stands when that is asked).");
        DutyOnLeft x = Check.laid("p0,99,9;p0,99,9;g0,0,10,1;g0,0,20,1;v0,1,5;");
        x.swear(0, 25);
        Check.due("without 10", 1, x.isFalse(0));
        x.pack(0, true);
        Check.due("once 10 is PACKED", 256, x.isFalse(0));
        x.pack(1, true);
        Check.due("once both are", 0, x.isFalse(0));
        x.undo();
        Check.due("UNDONE", 256, x.isFalse(0));
        x.leave(1);
        Check.due("LOVES nobody HERE", 0, x.isFalse(0));
        x.comeBack(1);
        x.give(0, 1);
        Check.due("once 10 is GIVEN", 256, x.isFalse(0));
        x.leave(0);
        Check.refused("GONE", NO, x, () -> x.isFalse(0));
        x.comeBack(0);
        Check.due("back, without a GOOD", 0, x.isFalse(0));
        x.give(0, 0);
        Check.due("10 and 5", 0, x.isFalse(0));
        DutyOnLeft y = new DutyOnLeft();
        y.swear(0, 19);
        y.keep();
        y.pack(0, true);
        Check.due("PACKED", 0, y.isFalse(0));
        y.back();
        Check.due("as KEPT", 256, y.isFalse(0));
    }

    private static void falseGoods() {
        Sentences.of("FALSE: of his GOODS that are not PACKED those (bits) without which alone, as if there were none such, what he swears would be what he owes now;");
        DutyOnLeft x = Check.laid("p0,0,9;p0,0,0;g0,0,10,1;g0,1,10,0;g0,0,10,1;g1,0,6,0;g2,0,2,0;g3,0,20,0;g0,0,10,1;v0,1,3;");
        x.pack(6, true);
        x.swear(0, 23);
        x.swear(0, 39);
        x.swear(0, 27);
        x.swear(0, 13);
        x.swear(1, 0);
        Check.due("owes", 33, x.owes(0));
        Check.due("each of 10 that is his and not PACKED; the HOUSE", 1 + 4 + 32, x.isFalse(0));
        Check.due("the DEBT", 8, x.isFalse(1));
        Check.due("the GRAVE, 3 times", 16, x.isFalse(2));
        Check.due("two together do not count", 0, x.isFalse(3));
        Check.due("his only one", 2, x.isFalse(4));
        DutyOnLeft y = Check.laid("p0,0,0;g1,0,40,0;g0,0,30,0;g0,0,15,0;");
        y.swear(0, 0);
        y.swear(0, 5);
        y.swear(0, 45);
        Check.due("0 at least, then too", 2 + 4, y.isFalse(0));
        Check.due("what he owes", 256, y.isFalse(1));
        Check.due("without the DEBT", 1, y.isFalse(2));
        DutyOnLeft z = Check.laid("p0,0,0;" + "g0,0,1,0;".repeat(8));
        z.swear(0, 7);
        Check.due("all eight", 255, z.isFalse(0));
        DutyOnLeft w = Check.laid("p4,0,0;p0,0,0;g0,0,5,0;g0,0,4,0;g0,0,1,0;");
        w.swear(0, 2);
        w.swear(1, 5);
        Check.due("the third part, cut", 2, w.isFalse(0));
        Check.due("no GOODS of his", 0, w.isFalse(1));
    }

    private static void whatHeOwes() {
        Sentences.of("256 more, if it is what he owes.");
        DutyOnLeft x = Check.laid("p0,0,0;p4,0,0;p0,0,0;g0,0,9,0;g0,1,9,0;g0,1,1,0;g0,1,3,0;t10;");
        int[][] rows = {{0, 9, 256}, {0, 8, 0}, {0, 10, 0}, {1, 4, 256 + 4}, {1, 3, 8}, {2, 0, 256}};
        for (int k = 0; k < rows.length; k++) {
            x.swear(rows[k][0], rows[k][1]);
            Check.due(rows[k][0] + " swears " + rows[k][1], rows[k][2], x.isFalse(k));
        }
        DutyOnLeft y = Check.laid("p0,0,0;" + "g1,0,1,0;".repeat(8));
        y.swear(0, 0);
        Check.due("all eight and 256", 511, y.isFalse(0));
    }

    private static void loved(DutyOnLeft x, int k, int j, int many, int lowest) {
        Check.due("loved(" + k + ", " + j + ", 0)", many, x.loved(k, j, 0));
        Check.due("loved(" + k + ", " + j + ", 1)", lowest, x.loved(k, j, 1));
    }

    private static void howManyLoves() {
        Sentences.of("LOVED: how many V (0 to 20) there are such that,");
        DutyOnLeft x = Check.laid("p0,0,0;p0,0,0;p4,0,0;g0,0,10,0;g1,2,30,0;v0,1,7;");
        int[][] rows = {{10, 1, 0}, {11, 1, 1}, {29, 1, 19}, {30, 1, 20}, {9, 0, NONE}, {31, 0, NONE}};
        for (int k = 0; k < rows.length; k++) {
            x.swear(0, rows[k][0]);
            loved(x, k, 1, rows[k][1], rows[k][2]);
        }
        x.forget();
        x.swear(2, 0);
        loved(x, 0, 0, 21, 0);
        DutyOnLeft y = Check.laid("p1,0,0;p0,0,0;t5;");
        y.swear(0, 5);
        y.swear(0, 4);
        loved(y, 0, 1, 1, 20);
        loved(y, 1, 1, 4, 16);
        DutyOnLeft z = Check.laid("p0,0,0;p0,0,0;t1;");
        z.swear(0, 1);
        z.swear(0, 2);
        loved(z, 0, 1, 10, 10);
        loved(z, 1, 1, 1, 20);
        DutyOnLeft w = Check.laid("p0,0,0;p0,0,0;t20;");
        w.swear(0, 40);
        w.swear(0, 39);
        loved(w, 0, 1, 1, 20);
        loved(w, 1, 1, 0, NONE);
    }

    private static void ifHeLoved() {
        Sentences.of("if he LOVED another one HERE by that, what he swears would be what he owes now;");
        DutyOnLeft x = Check.laid("p0,99,9;p0,99,0;p0,99,0;g0,0,10,1;v0,1,7;v0,2,4;v1,0,9;");
        x.swear(0, 20);
        loved(x, 0, 1, 1, 6);
        loved(x, 0, 2, 1, 3);
        Check.due("he does not LOVE for good", 7, x.love(0, 1));
        x.pack(0, true);
        loved(x, 0, 1, 1, 16);
        x.leave(2);
        loved(x, 0, 1, 1, 20);
        Check.refused("one GONE is not HERE", NO, x, () -> x.loved(0, 2, 0));
        x.comeBack(2);
        x.leave(0);
        Check.refused("he who swears is GONE", NO, x, () -> x.loved(0, 1, 0));
        DutyOnLeft y = Check.laid("p0,0,0;p0,0,0;g1,0,5,0;");
        y.swear(0, 0);
        loved(y, 0, 1, 6, 0);
    }

    private static void lowestOrNone() {
        Sentences.of("the lowest; none.");
        DutyOnLeft x = Check.laid("p4,0,0;p0,0,0;p0,0,0;v0,1,6;v0,2,1;");
        x.swear(0, 3);
        loved(x, 0, 1, 3, 8);
        loved(x, 0, 2, 3, 3);
        x.swear(0, 7);
        loved(x, 1, 1, 1, 20);
        loved(x, 1, 2, 3, 15);
        x.swear(0, 0);
        loved(x, 2, 1, 2, 0);
        loved(x, 2, 2, 0, NONE);
        x.swear(0, 999);
        loved(x, 3, 1, 0, NONE);
    }
}
