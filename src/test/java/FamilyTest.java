/** Promises 1 to 8: a new object, the text, its fault, the family laid. */
final class FamilyTest {
    private static final int BAD = Check.BAD, NO = Check.NO, FULL = Check.FULL, NONE = Check.NONE;
    private static final String TWO = "p0,50,9;p1,30,4;";

    public static void main(String[] args) {
        newObject();
        write();
        wipe();
        faultOfShape();
        faultOfNumbers();
        faultOfLimits();
        faultIsTheFirst();
        lay();
        layRefuses();
        layForgets();
        lastOneCounts();
        person();
        good();
        love();
        Check.end("FamilyTest");
    }

    private static void newObject() {
        DutyOnLeft x = new DutyOnLeft();
        int[][] persons = {{0, 60, 9}, {1, 30, 4}, {3, 20, 2}, {4, 5, 3}, {2, 40, 6}};
        int[][] goods = {{0, 0, 20, 8}, {1, 0, 9, 0}, {2, 2, 12, 0}, {0, 1, 7, 3}, {3, 3, 40, 20}, {0, 4, 15, 5}};
        int[] counts = {5, 6, 0, 0, 0, 0, 8, 0, 0, 0, 0};
        for (int i = 0; i < persons.length; i++) {
            for (int what = 0; what < 3; what++) {
                Check.due("new: person(" + i + ", " + what + ")", persons[i][what], x.person(i, what));
            }
            Check.due("new: is here " + i, 1, x.person(i, 3));
            Check.due("new: paid by " + i, 0, x.person(i, 4));
        }
        for (int g = 0; g < goods.length; g++) {
            for (int what = 0; what < 4; what++) {
                Check.due("new: good(" + g + ", " + what + ")", goods[g][what], x.good(g, what));
            }
            Check.due("new: is packed " + g, 0, x.good(g, 4));
        }
        for (int k = 0; k < counts.length; k++) {
            Check.due("new: count(" + k + ")", counts[k], x.count(k));
        }
        int[][] loves = {{0, 8, 0, 0, 5}, {6, 0, 0, 0, 0}, {0, 0, 0, 10, 0}, {0, 0, 9, 0, 0}, {5, 0, 0, 0, 0}};
        for (int i = 0; i < 5; i++) {
            for (int j = 0; j < 5; j++) {
                Check.due("new: love(" + i + ", " + j + ")", i == j ? BAD : loves[i][j], x.love(i, j));
            }
        }
        Check.due("new: lay()", NO, x.lay());
        Check.due("new: undo()", NO, x.undo());
        Check.due("new: back()", NO, x.back());
        Check.due("new: fault()", NONE, x.fault());
        Check.due("new: wipe()", 0, x.wipe());
    }

    private static void write() {
        DutyOnLeft x = new DutyOnLeft();
        int[] none = {31, 127, 0, -1, 128, 256 + 'p', 65536 + 'p', Integer.MIN_VALUE, Integer.MAX_VALUE};
        for (int letter : none) {
            Check.due("write(" + letter + ")", BAD, x.write(letter));
        }
        Check.due("count(10) behind BAD", 0, x.count(10));
        Check.due("write(32)", 1, x.write(32));
        Check.due("write(126)", 2, x.write(126));
        for (int k = 3; k <= 200; k++) {
            Check.due("write, " + k, k, x.write('p'));
        }
        Check.due("write of the 201st", FULL, x.write('p'));
        Check.due("write of none on a full text", BAD, x.write(127));
        Check.due("count(10) of a full text", 200, x.count(10));
        Check.due("fault of a full text", 0, x.fault());
    }

    private static void wipe() {
        DutyOnLeft x = new DutyOnLeft();
        Check.written(x, TWO);
        Check.due("wipe", 16, x.wipe());
        Check.due("wipe again", 0, x.wipe());
        Check.due("count(10)", 0, x.count(10));
        Check.due("the family stands", 5, x.count(0));
        Check.due("write behind wipe", 1, x.write('t'));
        Check.due("fault behind wipe", 0, x.fault());
        Check.written(x, "p0,50,9;");
        Check.written(x, "p0,50,9");
        Check.due("what was wiped does not end an item", 0, x.fault());
    }

    private static void faults(int want, String[] texts) {
        for (String text : texts) {
            Check.due("fault of " + text, want, Check.faultOf(text));
        }
    }

    private static void faultOfShape() {
        faults(NONE, new String[] {"", "p0,0,0;", "p00,00,00;", "p04,99,20;", "t1;", "t20;", "t01;", TWO, TWO + "v0,1,0;v1,0,20;",
            TWO + "g0,0,1,0;g3,1,40,20;"});
        faults(0, new String[] {"p", "p0", "p0,", "p0,0", "p0,0,0", "p0,0;", "p0,0,0,0;", "p;", "p,0,0;", "p0,,0;", "p0,0,;", "p0,000,0;",
            "p 0,0,0;", "p0, 0,0;", "p0,0,0 ;", " p0,0,0;", "P0,0,0;", "q0,0,0;", ";", "0", "p0;0;0;", "p0,0,0,", "p-1,0,0;", "p0,+1,0;",
            "t;", "t", "t1", "t1,1;", "t001;", "t:;", "t/;", "T1;", "p0.0.0;", "p0,0,0:"});
        faults(8, new String[] {"p0,50,9;p", "p0,50,9; ", "p0,50,9;;", "p0,50,9;t1,", "p0,50,9;x1;"});
    }

    private static void faultOfNumbers() {
        faults(0, new String[] {"p5,0,0;", "p0,0,21;", "p99,0,0;", "t0;", "t00;", "t21;", "t99;", "g0,0,1,0;", "v0,1,1;"});
        faults(16, new String[] {TWO + "g4,0,1,0;", TWO + "g0,2,1,0;", TWO + "g0,0,0,0;", TWO + "g0,0,41,0;", TWO + "g0,0,1,21;",
            TWO + "v0,0,1;", TWO + "v1,1,0;", TWO + "v0,2,1;", TWO + "v2,0,1;", TWO + "v0,1,21;", TWO + "g0,0,1;", TWO + "v0,1;",
            TWO + "g0,0,1,0,0;", TWO + "v0,1,1,1;"});
    }

    private static void faultOfLimits() {
        String six = "p0,0,0;".repeat(6);
        Check.due("six persons", NONE, Check.faultOf(six));
        Check.due("seven persons", 42, Check.faultOf(six + "p0,0,0;"));
        String eight = "p0,0,0;" + "g0,0,1,0;".repeat(8);
        Check.due("eight goods", NONE, Check.faultOf(eight));
        Check.due("nine goods", 79, Check.faultOf(eight + "g0,0,1,0;"));
        Check.due("the last of six owns", NONE, Check.faultOf(six + "g0,5,1,0;v5,0,1;"));
        Check.due("none of six owns", 42, Check.faultOf(six + "g0,6,1,0;"));
        String full = six + "v0,1,20;".repeat(19) + "t1;t1;";
        Check.due("a full text without fault", NONE, Check.faultOf(full));
        String shorter = "t1;".repeat(66);
        Check.due("many short items", NONE, Check.faultOf(shorter));
        Check.due("many short items, the last one open", 198, Check.faultOf(shorter + "t1"));
    }

    private static void faultIsTheFirst() {
        Check.due("told behind", 8, Check.faultOf("p0,50,9;g0,1,1,0;p0,1,1;"));
        Check.due("loved behind", 8, Check.faultOf("p0,50,9;v0,1,1;p0,1,1;"));
        Check.due("two faults", 8, Check.faultOf("p0,50,9;t0;p9,1,1;"));
        Check.due("a fault, then none", 0, Check.faultOf("t0;p0,50,9;"));
    }

    private static void lay() {
        DutyOnLeft x = new DutyOnLeft();
        Check.written(x, "t5;p2,7,3;g3,0,9,2;p4,99,20;g1,0,40,0;v1,0,4;");
        Check.due("lay", 2, x.lay());
        Check.due("the text stays", 45, x.count(10));
        Check.due("persons", 2, x.count(0));
        Check.due("goods", 2, x.count(1));
        Check.due("T", 5, x.count(6));
        Check.due("KIND", 2, x.person(0, 0));
        Check.due("coins", 7, x.person(0, 1));
        Check.due("STRENGTH", 3, x.person(0, 2));
        Check.due("coins of the other", 99, x.person(1, 1));
        Check.due("no third", BAD, x.person(2, 0));
        Check.due("HOUSE", 3, x.good(0, 0));
        Check.due("owner", 0, x.good(1, 1));
        Check.due("love", 4, x.love(1, 0));
        Check.due("love the other way", 0, x.love(0, 1));
        Check.due("lay again", 2, x.lay());
    }

    private static void layRefuses() {
        DutyOnLeft x = new DutyOnLeft();
        x.pack(0, true);
        String before = Check.standing(x);
        Check.due("lay of an empty text", NO, x.lay());
        Check.written(x, "t5;");
        Check.due("lay without a person", NO, x.lay());
        Check.written(x, TWO + "t0;");
        Check.due("lay of a fault", NO, x.lay());
        Check.written(x, TWO + "g0");
        Check.due("lay of an open item", NO, x.lay());
        Check.same("nothing changed", before, Check.standing(x));
        Check.due("T as before", 8, x.count(6));
        Check.due("PACKED as before", 1, x.good(0, 4));
        Check.due("can be undone as before", 1, x.count(8));
        Check.due("undo", 0, x.undo());
        Check.due("love as before", 10, x.love(2, 3));
    }

    private static void layForgets() {
        DutyOnLeft x = Check.laid(TWO + "g0,0,10,1;g0,1,10,1;v0,1,5;t3;");
        x.pack(0, true);
        x.leave(1);
        x.swear(0, 5);
        x.keep();
        Check.due("paid before", 1, x.count(5));
        Check.due("lay", 2, x.lay());
        int[] counts = {2, 2, 0, 0, 0, 0, 3, 0, 0, 0, 46};
        for (int k = 0; k < counts.length; k++) {
            Check.due("laid anew: count(" + k + ")", counts[k], x.count(k));
        }
        Check.due("HERE", 1, x.person(1, 3));
        Check.due("coins", 30, x.person(1, 1));
        Check.due("paid", 0, x.person(1, 4));
        Check.due("owner", 1, x.good(1, 1));
        Check.due("undo", NO, x.undo());
        Check.due("back", NO, x.back());
        Check.due("isFalse", BAD, x.isFalse(0));
        Check.written(x, TWO);
        x.lay();
        Check.due("love without", 0, x.love(0, 1));
        Check.due("T without", 10, x.count(6));
        Check.due("goods without", BAD, x.good(0, 0));
    }

    private static void lastOneCounts() {
        DutyOnLeft x = Check.laid("t3;" + TWO + "v0,1,5;v1,0,7;v0,1,9;v1,0,0;t12;");
        Check.due("the last love", 9, x.love(0, 1));
        Check.due("the last love, 0", 0, x.love(1, 0));
        Check.due("the last T", 12, x.count(6));
    }

    private static void person() {
        DutyOnLeft x = new DutyOnLeft();
        x.leave(1);
        Check.due("GONE", 0, x.person(1, 3));
        Check.due("paid", 5, x.person(1, 4));
        Check.due("coins", 25, x.person(1, 1));
        Check.due("STRENGTH of one GONE", 4, x.person(1, 2));
        Check.due("KIND of one GONE", 1, x.person(1, 0));
        int[][] none = {{-1, 0}, {5, 0}, {6, 0}, {0, 5}, {0, -1}, {Integer.MAX_VALUE, 0}, {0, Integer.MIN_VALUE}};
        for (int[] call : none) {
            Check.due("person(" + call[0] + ", " + call[1] + ")", BAD, x.person(call[0], call[1]));
        }
    }

    private static void good() {
        DutyOnLeft x = new DutyOnLeft();
        x.leave(1);
        x.pack(0, true);
        Check.due("nobody's", NONE, x.good(3, 1));
        Check.due("KIND of nobody's", 0, x.good(3, 0));
        Check.due("worth of nobody's", 7, x.good(3, 2));
        Check.due("weight of nobody's", 3, x.good(3, 3));
        Check.due("nobody's is not PACKED", 0, x.good(3, 4));
        Check.due("PACKED", 1, x.good(0, 4));
        int[][] none = {{-1, 0}, {6, 0}, {8, 0}, {0, 5}, {0, -1}, {Integer.MIN_VALUE, 0}, {0, Integer.MAX_VALUE}};
        for (int[] call : none) {
            Check.due("good(" + call[0] + ", " + call[1] + ")", BAD, x.good(call[0], call[1]));
        }
    }

    private static void love() {
        DutyOnLeft x = new DutyOnLeft();
        x.leave(1);
        Check.due("love of one GONE", 6, x.love(1, 0));
        Check.due("love for one GONE", 8, x.love(0, 1));
        int[][] none = {{0, 0}, {4, 4}, {-1, 0}, {0, -1}, {5, 0}, {0, 5}, {7, 7}, {Integer.MIN_VALUE, 1}};
        for (int[] call : none) {
            Check.due("love(" + call[0] + ", " + call[1] + ")", BAD, x.love(call[0], call[1]));
        }
    }
}
