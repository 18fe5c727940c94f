/** The bounds of what stands behind part 4: BAD, NO, NONE, FULL, their order, and that nothing changes then. */
final class BoundsAnswers {
    private static final int BAD = Check.BAD, NO = Check.NO, FULL = Check.FULL, NONE = Check.NONE;
    private static final String FULL_TEXT = "t1;".repeat(66) + "t1";

    private BoundsAnswers() {
    }

    static void all() {
        bad();
        no();
        none();
        full();
        firstInThisOrder();
        nothingChanges();
    }

    private static void bad() {
        Sentences.of("BAD: a number is none that is told (PERSONS, GOODS: such as there are).");
        DutyOnLeft x = Check.laid("p0,50,9;p0,50,9;g0,0,5,1;");
        x.swear(0, 5);
        Check.refused("no PERSON 2 there is", BAD, x, () -> x.person(2, 0));
        Check.refused("no GOOD 1 there is", BAD, x, () -> x.good(1, 0));
        Check.refused("owes", BAD, x, () -> x.owes(2));
        Check.refused("owesWith", BAD, x, () -> x.owesWith(0, 2));
        Check.refused("pack", BAD, x, () -> x.pack(1, true));
        Check.refused("give", BAD, x, () -> x.give(0, 2));
        Check.refused("give", BAD, x, () -> x.give(1, 1));
        Check.refused("leave", BAD, x, () -> x.leave(2));
        Check.refused("comeBack", BAD, x, () -> x.comeBack(2));
        Check.refused("loved", BAD, x, () -> x.loved(0, 2, 0));
        Check.refused("not SWORN", BAD, x, () -> x.loved(1, 0, 0));
        Check.refused("byTurns", BAD, x, () -> x.byTurns(0, 2, 1, 0));
        DutyOnLeft y = Check.laid("p0,0,0;".repeat(6) + "g0,5,5,1;".repeat(8));
        Check.due("there is a PERSON 5", 0, y.person(5, 0));
        Check.due("there is a GOOD 7", 5, y.good(7, 2));
        Check.due("no PERSON 6", BAD, y.person(6, 0));
        Check.due("no GOOD 8", BAD, y.good(8, 0));
        DutyOnLeft z = Check.laid("p0,0,0;");
        Check.due("no GOOD at all", BAD, z.good(0, 0));
        Check.due("no GOOD at all", BAD, z.pack(0, true));
        Check.due("no GOOD at all", BAD, z.giving(0, 0));
        Check.due("nobody else", BAD, z.give(0, 0));
        Check.due("nobody else", BAD, z.love(0, 1));
    }

    private static void no() {
        Sentences.of("NO: not as things stand.");
        DutyOnLeft x = Check.laid("p0,50,9;p0,50,9;g0,0,5,1;");
        Check.refused("comes back, is HERE", NO, x, () -> x.comeBack(1));
        Check.refused("undo, none done", NO, x, x::undo);
        Check.refused("back, none KEPT", NO, x, x::back);
        x.leave(1);
        Check.refused("owes, is GONE", NO, x, () -> x.owes(1));
        x.comeBack(1);
        Check.due("as things stand then", 0, x.owes(1));
        Check.due("as things stand then", 1, x.undo());
        Check.written(x, "p0");
        Check.refused("lay", NO, x, x::lay);
        x.write(',');
        x.write('0');
        x.write(',');
        x.write('0');
        x.write(';');
        Check.due("lay, without FAULT then", 1, x.lay());
    }

    private static void none() {
        Sentences.of("NONE: there is none.");
        DutyOnLeft x = Check.laid("p0,50,9;g0,0,5,1;");
        Check.refused("nobody to give to", NONE, x, () -> x.giving(0, 0));
        Check.refused("so many CHAIRS", NONE, x, () -> x.chairs(6));
        Check.refused("nobody leaves as the second", NONE, x, () -> x.order(2));
        x.leave(0);
        Check.refused("no owner", NONE, x, () -> x.good(0, 1));
        Check.refused("no first one", NONE, x, () -> x.order(1));
        x.wipe();
        Check.refused("no FAULT", NONE, x, x::fault);
    }

    private static void full() {
        Sentences.of("FULL. Of several");
        DutyOnLeft x = new DutyOnLeft();
        Check.written(x, FULL_TEXT);
        x.keep();
        x.keep();
        for (int k = 0; k < 6; k++) {
            x.swear(0, k);
        }
        Check.refused("write", FULL, x, () -> x.write('a'));
        Check.refused("keep", FULL, x, x::keep);
        Check.refused("swear", FULL, x, () -> x.swear(0, 0));
        x.wipe();
        x.back();
        x.forget();
        Check.due("write", 1, x.write('a'));
        Check.due("keep", 2, x.keep());
        Check.due("swear", 1, x.swear(0, 0));
    }

    private static void firstInThisOrder() {
        Sentences.of("Of several the first in this order, whatever the order at a call;");
        DutyOnLeft x = Check.laid("p0,50,9;p0,50,9;p0,50,9;g0,0,5,1;g0,1,5,1;g0,1,5,1;");
        Check.written(x, FULL_TEXT);
        for (int k = 0; k < 6; k++) {
            x.swear(1, k);
        }
        x.pack(1, true);
        x.leave(1);
        Check.refused("write: BAD, FULL", BAD, x, () -> x.write(127));
        Check.refused("swear: BAD, NO, FULL", BAD, x, () -> x.swear(1, 1000));
        Check.refused("swear: BAD, FULL", BAD, x, () -> x.swear(0, -1));
        Check.refused("swear: NO, FULL", NO, x, () -> x.swear(1, 999));
        Check.refused("swear: FULL", FULL, x, () -> x.swear(0, 999));
        Check.refused("give: BAD by whom, NO by what", BAD, x, () -> x.give(1, 3));
        Check.refused("give: BAD by what, NO by whom", BAD, x, () -> x.give(3, 1));
        Check.refused("give: BAD, nobody's", BAD, x, () -> x.give(2, -1));
        Check.refused("leaveBoth: alike and GONE", BAD, x, () -> x.leaveBoth(1, 1));
        Check.refused("leaveBoth: one GONE, one BAD", BAD, x, () -> x.leaveBoth(1, 3));
        Check.refused("leaveBoth: one BAD, one GONE", BAD, x, () -> x.leaveBoth(-1, 1));
        Check.refused("owesWith: alike and GONE", BAD, x, () -> x.owesWith(1, 1));
        Check.refused("owesWith: one GONE, one BAD", BAD, x, () -> x.owesWith(1, 3));
        Check.refused("packing: GONE, what BAD", BAD, x, () -> x.packing(1, 2));
        Check.refused("giving: of one GONE, what BAD", BAD, x, () -> x.giving(1, 2));
        Check.refused("giving: nobody's, what BAD", BAD, x, () -> x.giving(2, -1));
        Check.refused("loved: GONE, what BAD", BAD, x, () -> x.loved(0, 0, 2));
        Check.refused("loved: GONE, himself", BAD, x, () -> x.loved(0, 1, 0));
        Check.refused("loved: GONE, no such PERSON", BAD, x, () -> x.loved(0, 3, 0));
        Check.refused("loved: GONE, the lowest there is not", NO, x, () -> x.loved(0, 0, 1));
        Check.refused("byTurns: GONE, n BAD", BAD, x, () -> x.byTurns(1, 0, 5, 0));
        Check.refused("byTurns: GONE, what BAD", BAD, x, () -> x.byTurns(0, 1, 1, 2));
        Check.refused("byTurns: GONE, alike", BAD, x, () -> x.byTurns(1, 1, 1, 0));
        Check.refused("byTurns: GONE, nothing to give", NO, x, () -> x.byTurns(1, 0, 1, 1));
        x.leave(2);
        Check.refused("giving: BAD, nobody else HERE", BAD, x, () -> x.giving(0, 2));
        Check.refused("giving: nobody's, nobody else HERE", NO, x, () -> x.giving(2, 0));
        Check.refused("giving: of one GONE, one HERE", NO, x, () -> x.giving(1, 1));
        Check.refused("giving: nobody else HERE", NONE, x, () -> x.giving(0, 0));
        x.leave(0);
        Check.refused("order: BAD, nobody HERE", BAD, x, () -> x.order(7));
        Check.refused("order: nobody HERE", NONE, x, () -> x.order(6));
        Check.refused("chairs: BAD, nobody HERE", BAD, x, () -> x.chairs(1000));
        Check.refused("chairs: nobody HERE", NONE, x, () -> x.chairs(999));
        Check.refused("good: what BAD, nobody's", BAD, x, () -> x.good(2, 5));
    }

    private static void nothingChanges() {
        Sentences.of("nothing changes then.");
        DutyOnLeft x = Check.laid("p2,50,9;p0,9,9;p3,0,0;g0,0,20,5;g0,1,30,4;g2,1,1,1;v0,1,6;v1,0,5;");
        x.keep();
        x.pack(0, true);
        x.pack(0, false);
        x.pack(0, true);
        x.leave(0);
        x.comeBack(0);
        x.swear(0, 3);
        Check.written(x, "t5");
        Check.refused("pack again", NO, x, () -> x.pack(0, true));
        Check.refused("pack a GRAVE", NO, x, () -> x.pack(2, true));
        Check.refused("give to himself", NO, x, () -> x.give(0, 0));
        Check.refused("leave without the coins", NO, x, () -> x.leave(1));
        Check.refused("leave together, one without the coins", NO, x, () -> x.leaveBoth(0, 1));
        Check.refused("come back, HERE", NO, x, () -> x.comeBack(0));
        Check.refused("lay", NO, x, x::lay);
        Check.refused("swear", BAD, x, () -> x.swear(0, 1000));
        Check.refused("write", BAD, x, () -> x.write(31));
        int[] left = {4, 3, 2, 1, 0};
        for (int more : left) {
            Check.due("what can be UNDONE stayed", more, x.undo());
        }
        Check.due("what was KEPT stayed", 0, x.back());
        Check.due("what was SWORN stayed", 1, x.isFalse(0));
        Check.due("THE TEXT stayed", 2, x.wipe());
    }
}
