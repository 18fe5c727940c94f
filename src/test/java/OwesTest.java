/** Promises 15 to 20: what one owes, should pack, should give, and in which order all go. */
final class OwesTest {
    private static final int BAD = Check.BAD, NO = Check.NO, NONE = Check.NONE;

    public static void main(String[] args) {
        owes();
        owesByKindOfGood();
        owesByTenths();
        owesRefuses();
        owesWith();
        packing();
        packingOfSeveral();
        packingRefuses();
        giving();
        givingRefuses();
        order();
        orderOfGrandmothers();
        orderOfSeveral();
        stuck();
        Check.end("OwesTest");
    }

    private static void owes() {
        DutyOnLeft x = Check.laid("p0,0,20;p1,0,20;p2,0,20;p4,0,20;g0,0,19,1;g0,1,19,1;g0,2,19,1;g0,3,19,1;v0,1,3;v1,2,4;v2,1,5;v3,0,6;");
        int[] wants = {22, 11, 12, 8};
        for (int i = 0; i < 4; i++) {
            Check.due("owes(" + i + ")", wants[i], x.owes(i));
        }
        x.pack(0, true);
        Check.due("nothing LEFT but one whom he LOVES", 3, x.owes(0));
        x.pack(1, true);
        Check.due("a love is cut, too", 2, x.owes(1));
        x.give(0, 2);
        Check.due("GIVEN it is owed for by the other one", 21, x.owes(2));
        x.give(1, 2);
        x.leave(0);
        Check.due("he has not the coins", 1, x.person(0, 3));
    }

    private static void owesByKindOfGood() {
        Check.due("CHATTEL", 7, Check.laid("p0,0,0;g0,0,7,0;").owes(0));
        Check.due("DEBT alone", 0, Check.laid("p0,0,0;g1,0,7,0;").owes(0));
        Check.due("DEBT and CHATTEL", 3, Check.laid("p0,0,0;g1,0,7,0;g0,0,10,0;").owes(0));
        Check.due("DEBT and love", 1, Check.laid("p0,0,0;p0,0,0;g1,0,7,0;v0,1,8;").owes(0));
        Check.due("GRAVE", 21, Check.laid("p0,0,0;g2,0,7,0;").owes(0));
        Check.due("HOUSE", 3, Check.laid("p0,0,0;g3,0,7,0;").owes(0));
        Check.due("two HOUSES, each cut", 6, Check.laid("p0,0,0;g3,0,7,0;g3,0,7,0;").owes(0));
        Check.due("a HOUSE of 1", 0, Check.laid("p0,0,0;g3,0,1,0;").owes(0));
        Check.due("all that can be", 1920, Check.laid("p0,0,0;" + "g2,0,40,0;".repeat(8) + "t20;").owes(0));
        DutyOnLeft x = Check.laid("p0,0,9;g1,0,7,1;g0,0,10,1;");
        x.pack(0, true);
        Check.due("a PACKED DEBT counts nothing", 10, x.owes(0));
        x.pack(1, true);
        Check.due("all PACKED", 0, x.owes(0));
    }

    private static void owesByTenths() {
        Check.due("without t, all of it", 19, Check.laid("p0,0,0;g0,0,19,0;").owes(0));
        Check.due("one tenth, cut", 1, Check.laid("p0,0,0;g0,0,19,0;t1;").owes(0));
        Check.due("twenty tenths", 38, Check.laid("p0,0,0;g0,0,19,0;t20;").owes(0));
        Check.due("cut ahead of the half", 4, Check.laid("p1,0,0;g0,0,19,0;t5;").owes(0));
        Check.due("cut ahead of the third part", 2, Check.laid("p4,0,0;g0,0,9,0;t9;").owes(0));
        Check.due("both cuts", 0, Check.laid("p2,0,0;g0,0,19,0;t1;").owes(0));
        Check.due("all LEFT together, then the tenths", 1, Check.laid("p0,0,0;g0,0,5,0;g0,0,5,0;t1;").owes(0));
        Check.due("a GRANDMOTHER owes all of it", 19, Check.laid("p3,0,0;g0,0,19,0;").owes(0));
    }

    private static void owesRefuses() {
        DutyOnLeft x = new DutyOnLeft();
        int[] none = {-1, 5, 6, Integer.MAX_VALUE, Integer.MIN_VALUE};
        for (int i : none) {
            Check.due("owes(" + i + ")", BAD, x.owes(i));
        }
        x.leave(1);
        Check.due("owes of one GONE", NO, x.owes(1));
        Check.due("without him whom he LOVED", 12, x.owes(0));
    }

    private static void owesWith() {
        DutyOnLeft x = Check.laid("p0,0,0;p0,0,0;p0,0,0;v0,1,7;v1,0,4;v0,2,5;g0,0,10,0;g1,1,3,0;");
        Check.due("half of 7, cut", 18, x.owesWith(0, 1));
        Check.due("half of 4, less the DEBT", 0, x.owesWith(1, 0));
        Check.due("half of 5, cut", 19, x.owesWith(0, 2));
        Check.due("none LOVED", 1, x.owesWith(1, 2));
        Check.due("alone", 22, x.owes(0));
        int[][] none = {{0, 0}, {2, 2}, {3, 0}, {0, 3}, {-1, 0}, {0, -1}, {3, 3}};
        for (int[] call : none) {
            Check.due("owesWith(" + call[0] + ", " + call[1] + ")", BAD, x.owesWith(call[0], call[1]));
        }
        x.leave(2);
        Check.due("the second is GONE", NO, x.owesWith(0, 2));
        Check.due("the first is GONE", NO, x.owesWith(2, 0));
        Check.due("alike ahead of GONE", BAD, x.owesWith(2, 2));
    }

    private static void packing() {
        DutyOnLeft x = Check.laid("p0,0,10;p0,0,20;g0,0,9,8;g0,0,6,5;g1,0,20,0;g0,0,6,5;g2,0,5,0;g3,0,9,0;v0,1,9;");
        Check.due("owes now", 29, x.owes(0));
        Check.due("two of 6 are more than one of 9, a HOUSE goes in", 42, x.packing(0, 0));
        Check.due("as much", 13, x.packing(0, 1));
        x.pack(0, true);
        Check.due("what is PACKED now does not matter", 42, x.packing(0, 0));
        Check.due("as much", 13, x.packing(0, 1));
        Check.due("nothing to pack", 0, x.packing(1, 0));
        Check.due("nothing owed", 0, x.packing(1, 1));
        x.give(3, 1);
        Check.due("only his own", 33, x.packing(0, 0));
        Check.due("of the other one", 8, x.packing(1, 0));
        DutyOnLeft w = Check.laid("p0,0,9;g2,0,9,0;g0,0,1,0;g2,0,9,0;");
        Check.due("no GRAVES", 2, w.packing(0, 0));
        Check.due("which count", 54, w.packing(0, 1));
        DutyOnLeft y = Check.laid("p4,0,5;g0,0,9,5;g0,0,10,6;");
        Check.due("no heavier than his STRENGTH", 1, y.packing(0, 0));
        Check.due("the third part", 3, y.packing(0, 1));
    }

    private static void packingOfSeveral() {
        DutyOnLeft x = Check.laid("p0,0,5;g0,0,9,5;g0,0,9,5;");
        Check.due("of several the lowest", 1, x.packing(0, 0));
        DutyOnLeft y = Check.laid("p0,0,9;g1,0,40,1;g0,0,9,1;g0,0,9,1;");
        Check.due("nothing is owed as it is", 0, y.packing(0, 0));
        DutyOnLeft z = Check.laid("p0,0,9;g0,0,1,1;g0,0,10,1;t1;");
        Check.due("what is cut anyhow is not PACKED", 2, z.packing(0, 0));
        DutyOnLeft w = Check.laid("p0,0,20;p0,0,20;" + "g0,0,1,2;".repeat(8));
        Check.due("all of eight", 255, w.packing(0, 0));
        Check.due("nothing is owed then", 0, w.packing(0, 1));
        w.pack(0, true);
        w.pack(1, true);
        Check.due("nothing changes", 6, w.owes(0));
    }

    private static void packingRefuses() {
        DutyOnLeft x = new DutyOnLeft();
        int[][] none = {{-1, 0}, {5, 0}, {0, 2}, {0, -1}, {5, 2}};
        for (int[] call : none) {
            Check.due("packing(" + call[0] + ", " + call[1] + ")", BAD, x.packing(call[0], call[1]));
        }
        x.leave(1);
        Check.due("GONE", NO, x.packing(1, 0));
        Check.due("GONE", NO, x.packing(1, 1));
        Check.due("BAD ahead of NO", BAD, x.packing(1, 2));
    }

    private static void giving() {
        DutyOnLeft x = Check.laid("p0,0,20;p1,0,0;p4,0,0;p4,0,0;g0,0,30,1;g1,1,6,0;g0,0,4,1;");
        Check.due("to a CHILD, of several the lowest", 2, x.giving(0, 0));
        Check.due("as much", 14, x.giving(0, 1));
        Check.due("a DEBT to where it counts most", 0, x.giving(1, 0));
        Check.due("as much", 28, x.giving(1, 1));
        Check.due("a small one to him with the DEBT", 1, x.giving(2, 0));
        Check.due("as much", 30, x.giving(2, 1));
        x.pack(0, true);
        Check.due("owed with it PACKED", 4, x.owes(0));
        Check.due("unpacked then", 2, x.giving(0, 0));
        Check.due("so as much", 14, x.giving(0, 1));
        Check.due("still PACKED", 1, x.good(0, 4));
        x.leave(2);
        Check.due("to the other CHILD, of those HERE", 3, x.giving(0, 0));
        x.leave(3);
        Check.due("to the SMUGGLER", 1, x.giving(0, 0));
        Check.due("as much", 16, x.giving(0, 1));
    }

    private static void givingRefuses() {
        DutyOnLeft x = Check.laid("p0,99,9;p0,99,9;g0,0,3,1;g0,1,3,1;g0,1,4,1;");
        int[][] none = {{-1, 0}, {3, 0}, {0, 2}, {0, -1}};
        for (int[] call : none) {
            Check.due("giving(" + call[0] + ", " + call[1] + ")", BAD, x.giving(call[0], call[1]));
        }
        x.pack(1, true);
        x.leave(1);
        Check.due("nobody else is HERE", NONE, x.giving(0, 0));
        Check.due("nobody else is HERE", NONE, x.giving(0, 1));
        Check.due("of one who is GONE", NO, x.giving(1, 0));
        Check.due("nobody's", NO, x.giving(2, 1));
        Check.due("BAD ahead of NO", BAD, x.giving(2, 2));
        Check.due("BAD ahead of NONE", BAD, x.giving(0, 2));
    }

    private static void order() {
        DutyOnLeft x = Check.laid("p0,0,0;p0,0,0;p0,0,0;g0,0,10,0;v0,1,9;v1,2,5;v2,0,7;t10;");
        Check.due("the least", 15, x.order(0));
        Check.due("first", 1, x.order(1));
        Check.due("second", 0, x.order(2));
        Check.due("third", 2, x.order(3));
        Check.due("there are three", NONE, x.order(4));
        Check.due("there are three", NONE, x.order(6));
        Check.due("order(-1)", BAD, x.order(-1));
        Check.due("order(7)", BAD, x.order(7));
        DutyOnLeft y = Check.laid("p0,99,9;g0,0,10,3;");
        Check.due("one", 10, y.order(0));
        y.pack(0, true);
        Check.due("as PACKED", 0, y.order(0));
        Check.due("he", 0, y.order(1));
        y.leave(0);
        Check.due("nobody is HERE", 0, y.order(0));
        Check.due("nobody leaves", NONE, y.order(1));
        Check.due("BAD", BAD, y.order(7));
    }

    private static void orderOfGrandmothers() {
        DutyOnLeft x = Check.laid("p3,0,0;p3,0,0;");
        Check.due("two grandmothers", NONE, x.order(0));
        Check.due("two grandmothers", NONE, x.order(1));
        Check.due("two grandmothers", NONE, x.order(6));
        DutyOnLeft y = Check.laid("p3,0,0;");
        Check.due("a grandmother alone from the first leaves", 0, y.order(0));
        Check.due("she", 0, y.order(1));
        DutyOnLeft z = Check.laid("p0,0,0;p3,0,0;v1,0,9;");
        Check.due("she leaves ahead of him, though she pays so", 9, z.order(0));
        Check.due("first", 1, z.order(1));
        Check.due("second", 0, z.order(2));
        DutyOnLeft w = Check.laid("p0,0,0;p3,0,0;p0,0,0;v1,0,8;v1,2,9;g0,0,5,0;");
        Check.due("she leaves as the second, coins aside", 13, w.order(0));
        Check.due("first", 2, w.order(1));
        Check.due("second", 1, w.order(2));
        Check.due("third", 0, w.order(3));
        Check.due("who have not the coins", 3, w.stuck());
    }

    private static void orderOfSeveral() {
        DutyOnLeft x = Check.laid("p0,0,0;".repeat(6));
        for (int k = 1; k <= 6; k++) {
            Check.due("all alike, " + k, k - 1, x.order(k));
        }
        DutyOnLeft y = Check.laid("p0,0,0;".repeat(5) + "p0,9,0;v0,5,3;v1,5,3;v2,0,3;");
        int[] wants = {3, 4, 5, 0, 1, 2};
        Check.due("none pays", 0, y.order(0));
        for (int k = 1; k <= 6; k++) {
            Check.due("the first of those, " + k, wants[k - 1], y.order(k));
        }
        DutyOnLeft z = Check.laid("p0,0,0;p0,0,0;p0,0,0;v0,2,4;v2,0,4;");
        Check.due("one of both", 4, z.order(0));
        int[] first = {0, 1, 2};
        for (int k = 0; k < 3; k++) {
            Check.due("of several the first, " + (k + 1), first[k], z.order(k + 1));
        }
        z.leave(1);
        Check.due("without the one who is GONE", 0, z.order(1));
        Check.due("the last", 2, z.order(2));
        Check.due("no third", NONE, z.order(3));
    }

    private static void stuck() {
        DutyOnLeft x = Check.laid("p0,9,0;p3,9,0;p0,9,0;g0,0,10,0;g0,2,9,0;");
        Check.due("he has not the coins", 1, x.stuck());
        x.leave(2);
        Check.due("nor may he leave her alone", 1, x.stuck());
        x.undo();
        x.give(0, 2);
        x.leave(0);
        Check.due("he has not the coins", 4, x.stuck());
        x.leave(1);
        Check.due("nor behind her", 4, x.stuck());
        DutyOnLeft y = Check.laid("p3,9,0;p3,9,0;p0,9,0;");
        Check.due("none", 0, y.stuck());
        y.leave(2);
        Check.due("neither may leave the other one alone", 3, y.stuck());
        y.leaveBoth(0, 1);
        Check.due("who is GONE is not stuck", 0, y.stuck());
    }
}
