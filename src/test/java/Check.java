import java.util.function.IntSupplier;

/** What every test of the project uses: answers counted, families laid. */
final class Check {
    static final int BAD = DutyOnLeft.BAD, NO = DutyOnLeft.NO, FULL = DutyOnLeft.FULL, NONE = DutyOnLeft.NONE;
    private static int passed = 0;
    private static int failed = 0;
    private static String about = "";

    private Check() {
    }

    static void due(String call, int want, int got) {
        if (got == want) {
            passed++;
        } else {
            failed++;
            System.out.println(about + call + " answered " + got + ", due is " + want);
        }
    }

    /** What the checks from now on are about: told ahead of those that fail. */
    static void about(String what) {
        about = what.isEmpty() ? "" : "\"" + what + "\": ";
    }

    static int done() {
        return passed + failed;
    }

    static void written(DutyOnLeft x, String text) {
        x.wipe();
        for (int k = 0; k < text.length(); k++) {
            due("write of " + text.charAt(k), k + 1, x.write(text.charAt(k)));
        }
    }

    static int faultOf(String text) {
        DutyOnLeft x = new DutyOnLeft();
        written(x, text);
        return x.fault();
    }

    static DutyOnLeft laid(String text) {
        DutyOnLeft x = new DutyOnLeft();
        written(x, text);
        due("fault of " + text, NONE, x.fault());
        if (x.lay() < 1) {
            due("lay of " + text, 1, 0);
        }
        return x;
    }

    /** A call that is refused: what it answers, and that nothing changes. */
    static void refused(String call, int want, DutyOnLeft x, IntSupplier made) {
        String before = whole(x);
        due(call, want, made.getAsInt());
        same(call + " changes nothing", before, whole(x));
    }

    /** Like seen, with what else is told of an object. */
    static String whole(DutyOnLeft x) {
        StringBuilder all = new StringBuilder(seen(x)).append(x.fault()).append(' ').append(x.stuck());
        for (int i = 0; i < 6; i++) {
            all.append(' ').append(x.isFalse(i)).append(' ').append(x.owes(i));
            for (int j = 0; j < 6; j++) {
                all.append(' ').append(x.love(i, j));
            }
        }
        return all.toString();
    }

    /** All that can be seen of an object, to tell that nothing changed. */
    static String seen(DutyOnLeft x) {
        StringBuilder all = new StringBuilder();
        for (int k = 0; k <= 10; k++) {
            all.append(x.count(k)).append(' ');
        }
        return all.append(standing(x)).toString();
    }

    /** The persons and goods as they stand. */
    static String standing(DutyOnLeft x) {
        StringBuilder all = new StringBuilder();
        for (int i = 0; i < 6; i++) {
            for (int what = 0; what < 5; what++) {
                all.append(x.person(i, what)).append(' ');
            }
        }
        for (int g = 0; g < 8; g++) {
            for (int what = 0; what < 5; what++) {
                all.append(x.good(g, what)).append(' ');
            }
        }
        return all.toString();
    }

    static void same(String call, String want, String got) {
        due(call + (want.equals(got) ? "" : ": was " + want + ", is " + got), 0, want.equals(got) ? 0 : 1);
    }

    static void end(String test) {
        System.out.println(test + ": " + passed + " passed, " + failed + " failed");
        if (failed > 0) {
            System.exit(1);
        }
    }
}
