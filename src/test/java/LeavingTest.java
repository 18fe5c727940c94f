/** Promises 9 to 14: packing, giving, leaving, coming back, undone. */
final class LeavingTest {
    private static final int BAD = Check.BAD, NO = Check.NO, NONE = Check.NONE;

    public static void main(String[] args) {
        pack();
        packRefuses();
        give();
        giveRefuses();
        leave();
        leaveRefuses();
        leaveBoth();
        leaveBothRefuses();
        comeBack();
        comeBackOfABride();
        undo();
        undoEight();
        refusalsChangeNothing();
        Check.end("LeavingTest");
    }

    private static void pack() {
        DutyOnLeft x = Check.laid("p0,50,9;p1,30,4;g0,0,10,5;g1,0,4,4;g3,0,9,1;g0,1,8,4;g0,0,3,0;");
        Check.due("pack", 5, x.pack(0, true));
        Check.due("pack a DEBT, up to his STRENGTH", 9, x.pack(1, true));
        Check.due("one more is too heavy", NO, x.pack(2, true));
        Check.due("what is not heavy at all goes in", 9, x.pack(4, true));
        Check.due("the other one's load is his own", 4, x.pack(3, true));
        Check.due("unpack", 4, x.pack(0, false));
        Check.due("pack a HOUSE", 5, x.pack(2, true));
        Check.due("PACKED", 4, x.count(3));
        Check.due("owes by what is not PACKED", 10, x.owes(0));
    }

    private static void packRefuses() {
        DutyOnLeft x = Check.laid("p0,50,9;p1,30,4;g0,0,10,5;g2,0,4,0;g0,1,1,0;g0,1,1,0;");
        Check.due("pack(-1)", BAD, x.pack(-1, true));
        Check.due("pack(4)", BAD, x.pack(4, true));
        Check.due("unpack(4)", BAD, x.pack(4, false));
        Check.due("is unpacked", NO, x.pack(0, false));
        Check.due("a GRAVE", NO, x.pack(1, true));
        Check.due("a GRAVE unpacked", NO, x.pack(1, false));
        x.pack(0, true);
        Check.due("is PACKED", NO, x.pack(0, true));
        Check.due("pack", 0, x.pack(2, true));
        Check.due("leave", 0, x.leave(1));
        Check.due("pack of one who is GONE", NO, x.pack(2, true));
        Check.due("unpack of one who is GONE", NO, x.pack(2, false));
        Check.due("pack what is nobody's", NO, x.pack(3, true));
        Check.due("unpack what is nobody's", NO, x.pack(3, false));
        Check.due("what he PACKED is his", 1, x.good(2, 1));
        Check.due("and PACKED", 1, x.good(2, 4));
    }

    private static void give() {
        DutyOnLeft x = new DutyOnLeft();
        Check.due("give a GRAVE", 2, x.give(2, 0));
        Check.due("owner", 0, x.good(2, 1));
        x.pack(0, true);
        Check.due("give what is PACKED", 0, x.give(0, 1));
        Check.due("it is unpacked then", 0, x.good(0, 4));
        Check.due("PACKED", 0, x.count(3));
        Check.due("give back", 1, x.give(0, 0));
        Check.due("give a HOUSE", 3, x.give(4, 4));
        Check.due("give a DEBT", 0, x.give(1, 2));
        Check.due("coins as they were", 60, x.person(0, 1));
    }

    private static void giveRefuses() {
        DutyOnLeft x = new DutyOnLeft();
        int[][] none = {{-1, 0}, {6, 0}, {0, -1}, {0, 5}, {6, 5}};
        for (int[] call : none) {
            Check.due("give(" + call[0] + ", " + call[1] + ")", BAD, x.give(call[0], call[1]));
        }
        Check.due("give to himself", NO, x.give(0, 0));
        x.pack(3, true);
        Check.due("leave", 2, x.leave(1));
        Check.due("give to one GONE", NO, x.give(0, 1));
        Check.due("give of one GONE", NO, x.give(3, 0));
        x.leave(4);
        Check.due("give what is nobody's", NO, x.give(5, 0));
        Check.due("BAD ahead of NO", BAD, x.give(5, 5));
    }

    private static void leave() {
        DutyOnLeft x = new DutyOnLeft();
        Check.due("pack", 8, x.pack(0, true));
        Check.due("a PLAIN one leaves a DEBT and two whom he LOVES", 3, x.leave(0));
        Check.due("coins", 57, x.person(0, 1));
        Check.due("paid", 3, x.person(0, 4));
        Check.due("GONE", 0, x.person(0, 3));
        Check.due("his PACKED stays his", 0, x.good(0, 1));
        Check.due("his LEFT is nobody's", NONE, x.good(1, 1));
        Check.due("a SMUGGLER pays half, LOVES nobody HERE", 2, x.leave(1));
        Check.due("a BRIDE pays half", 6, x.leave(4));
        Check.due("nobody's", 3, x.count(4));
        Check.due("paid in all", 11, x.count(5));
        Check.due("GONE", 3, x.count(2));
        DutyOnLeft y = Check.laid("p4,99,0;p0,0,0;g2,0,7,0;v0,1,2;t10;");
        Check.due("a CHILD pays the third part", 7, y.leave(0));
        Check.due("nothing is owed", 0, y.leave(1));
        DutyOnLeft z = Check.laid("p0,10,0;g0,0,10,0;");
        Check.due("all his coins", 10, z.leave(0));
    }

    private static void leaveRefuses() {
        DutyOnLeft x = new DutyOnLeft();
        Check.due("leave(-1)", BAD, x.leave(-1));
        Check.due("leave(5)", BAD, x.leave(5));
        Check.due("has not the coins", NO, x.leave(2));
        x.leave(0);
        Check.due("is GONE", NO, x.leave(0));
        DutyOnLeft y = Check.laid("p3,99,0;p0,99,0;p3,99,0;");
        Check.due("two grandmothers stay", 0, y.leave(1));
        Check.due("a grandmother would be alone", NO, y.leave(0));
        Check.due("the other one, too", NO, y.leave(2));
        DutyOnLeft z = Check.laid("p3,0,0;p0,9,0;g0,1,9,0;");
        Check.due("a grandmother would be alone", NO, z.leave(1));
        Check.due("a grandmother leaves", 0, z.leave(0));
        Check.due("the last one leaves", 9, z.leave(1));
        DutyOnLeft w = Check.laid("p0,9,0;g0,0,10,0;");
        Check.due("a coin less", NO, w.leave(0));
    }

    private static void leaveBoth() {
        DutyOnLeft x = Check.laid("p0,99,0;p1,99,0;p2,99,5;g0,0,10,0;g0,1,20,0;g0,2,9,5;v0,1,7;v1,0,9;v0,2,4;v1,2,6;v2,0,20;t10;");
        Check.due("with 1", 17, x.owesWith(0, 1));
        Check.due("with 0", 15, x.owesWith(1, 0));
        Check.due("both", 32, x.leaveBoth(0, 1));
        Check.due("paid by 0", 17, x.person(0, 4));
        Check.due("paid by 1", 15, x.person(1, 4));
        Check.due("coins of 0", 82, x.person(0, 1));
        Check.due("coins of 1", 84, x.person(1, 1));
        Check.due("HERE 0", 0, x.person(0, 3));
        Check.due("HERE 1", 0, x.person(1, 3));
        Check.due("nobody's", 2, x.count(4));
        Check.due("one undo for both", 0, x.undo());
        Check.due("HERE", 0, x.count(2));
        Check.due("a BRIDE, too", 28, x.leaveBoth(2, 0));
        Check.due("pays for coming back what she paid then", 9, x.comeBack(2));
    }

    private static void leaveBothRefuses() {
        DutyOnLeft x = new DutyOnLeft();
        int[][] none = {{0, 0}, {-1, 0}, {0, -1}, {5, 0}, {0, 5}, {9, 9}};
        for (int[] call : none) {
            Check.due("leaveBoth(" + call[0] + ", " + call[1] + ")", BAD, x.leaveBoth(call[0], call[1]));
        }
        Check.due("the first has not the coins", NO, x.leaveBoth(2, 0));
        Check.due("the second has not the coins", NO, x.leaveBoth(0, 2));
        Check.due("neither did", 0, x.count(2));
        x.leave(1);
        Check.due("the first is GONE", NO, x.leaveBoth(1, 0));
        Check.due("the second is GONE", NO, x.leaveBoth(0, 1));
        DutyOnLeft y = Check.laid("p3,99,0;p0,99,0;p0,99,0;p3,99,0;");
        Check.due("two grandmothers behind", 0, y.leaveBoth(1, 2));
        Check.due("both grandmothers", 0, y.leaveBoth(0, 3));
        DutyOnLeft w = Check.laid("p0,9,0;p0,7,0;g0,0,9,0;g0,1,7,0;");
        w.keep();
        Check.due("all their coins", 16, w.leaveBoth(0, 1));
        w.back();
        w.give(0, 1);
        Check.due("too much for the second", NO, w.leaveBoth(0, 1));
        Check.due("too much for the first", NO, w.leaveBoth(1, 0));
        DutyOnLeft z = Check.laid("p0,99,0;p3,99,0;p0,99,0;");
        Check.due("a grandmother alone behind", NO, z.leaveBoth(0, 2));
        Check.due("a PLAIN one alone behind", 0, z.leaveBoth(0, 1));
    }

    private static void comeBack() {
        DutyOnLeft x = new DutyOnLeft();
        Check.due("comeBack(-1)", BAD, x.comeBack(-1));
        Check.due("comeBack(5)", BAD, x.comeBack(5));
        Check.due("is HERE", NO, x.comeBack(0));
        x.pack(3, true);
        Check.due("leave", 2, x.leave(1));
        Check.due("comes back for nothing", 0, x.comeBack(1));
        Check.due("coins", 28, x.person(1, 1));
        Check.due("HERE", 1, x.person(1, 3));
        Check.due("with what he PACKED", 1, x.good(3, 4));
        Check.due("which is his", 1, x.good(3, 1));
        Check.due("and can be unpacked", 0, x.pack(3, false));
        Check.due("and LOVED again", 19, x.owes(0));
        DutyOnLeft y = Check.laid("p3,5,0;p0,5,0;");
        y.leaveBoth(0, 1);
        Check.due("a grandmother may come back alone", 0, y.comeBack(0));
        Check.due("and leave", 0, y.leave(0));
    }

    private static void comeBackOfABride() {
        DutyOnLeft x = Check.laid("p2,20,9;p0,9,0;g0,0,10,9;v0,1,4;t10;");
        Check.due("leave", 7, x.leave(0));
        Check.due("pays once more", 7, x.comeBack(0));
        Check.due("coins", 6, x.person(0, 1));
        Check.due("paid in all", 14, x.person(0, 4));
        Check.due("leaves for her love", 2, x.leave(0));
        Check.due("pays that of the last time, not what she paid for coming back", 2, x.comeBack(0));
        Check.due("leaves", 2, x.leave(0));
        Check.due("coins", 0, x.person(0, 1));
        Check.due("has it not", NO, x.comeBack(0));
        Check.due("GONE", 1, x.count(2));
        DutyOnLeft y = Check.laid("p2,8,9;g0,0,8,9;");
        Check.due("leave", 4, y.leave(0));
        Check.due("all her coins", 4, y.comeBack(0));
        Check.due("coins", 0, y.person(0, 1));
    }

    private static void undo() {
        DutyOnLeft x = new DutyOnLeft();
        String[] standings = new String[8];
        standings[0] = Check.standing(x);
        for (int k = 0; k < 7; k++) {
            Check.due("done, " + k, 1, step(x, k) < 0 ? 0 : 1);
            standings[k + 1] = Check.standing(x);
            Check.due("can be", k + 1, x.count(8));
        }
        x.swear(1, 9);
        x.keep();
        x.write('p');
        for (int k = 6; k >= 0; k--) {
            Check.same("undoing " + k + " changes", "true", "" + !standings[k].equals(Check.standing(x)));
            Check.due("undo, " + k, k, x.undo());
            Check.same("undone, " + k, standings[k], Check.standing(x));
        }
        Check.due("what is SWORN stays", 1, x.count(7));
        Check.due("what is KEPT stays", 1, x.count(9));
        Check.due("THE TEXT stays", 1, x.count(10));
        Check.due("no more", NO, x.undo());
        bridePaysAfterUndo();
    }

    private static int step(DutyOnLeft x, int k) {
        switch (k) {
            case 0: return x.pack(0, true);
            case 1: return x.give(5, 0);
            case 2: return x.leave(4);
            case 3: return x.comeBack(4);
            case 4: return x.leaveBoth(0, 4);
            case 5: return x.comeBack(0);
            default: return x.pack(0, false);
        }
    }

    // What she paid when she left last is undone, too.
    private static void bridePaysAfterUndo() {
        DutyOnLeft x = Check.laid("p2,90,9;g0,0,10,9;g0,0,20,0;");
        Check.due("leave", 15, x.leave(0));
        Check.due("undo", 0, x.undo());
        x.pack(0, true);
        x.pack(1, true);
        x.leave(0);
        Check.due("comes back for nothing", 0, x.comeBack(0));
        Check.due("undo", 3, x.undo());
        Check.due("comes back for nothing", 0, x.comeBack(0));
    }

    private static void undoEight() {
        DutyOnLeft x = Check.laid("p0,9,9;g0,0,1,1;g0,0,1,2;");
        for (int k = 0; k < 11; k++) {
            Check.due("pack, " + k, k % 2 == 0 ? 1 : 0, x.pack(0, k % 2 == 0));
            Check.due("can be", Math.min(k + 1, 8), x.count(8));
        }
        for (int k = 7; k >= 0; k--) {
            Check.due("undo", k, x.undo());
            Check.due("PACKED", (k + 3) % 2, x.good(0, 4));
        }
        Check.due("the ninth", NO, x.undo());
        Check.due("one stays", 1, x.good(0, 4));
        Check.due("pack behind undo", 3, x.pack(1, true));
        Check.due("undo of that", 0, x.undo());
        Check.due("not PACKED", 0, x.good(1, 4));
    }

    private static void refusalsChangeNothing() {
        DutyOnLeft x = new DutyOnLeft();
        x.pack(0, true);
        x.leave(1);
        x.swear(0, 5);
        String before = Check.seen(x);
        x.pack(0, true);
        x.pack(4, true);
        x.pack(3, true);
        x.give(0, 0);
        x.give(3, 0);
        x.give(0, 1);
        x.leave(1);
        x.leave(2);
        x.leaveBoth(0, 2);
        x.leaveBoth(2, 0);
        x.comeBack(0);
        x.swear(1, 5);
        x.swear(0, 1000);
        x.back();
        x.lay();
        x.write(31);
        Check.same("nothing changed by what is refused", before, Check.seen(x));
        askAll(x);
        Check.same("nothing changed by what is asked", before, Check.seen(x));
    }

    private static void askAll(DutyOnLeft x) {
        for (int what = 0; what < 2; what++) {
            x.packing(0, what);
            x.giving(0, what);
            x.loved(0, 4, what);
            x.byTurns(0, 4, 4, what);
            x.year(77, 40, what);
        }
        x.owes(0);
        x.owesWith(0, 4);
        x.order(0);
        x.order(1);
        x.stuck();
        x.isFalse(0);
        x.chairs(50);
        x.fault();
    }
}
