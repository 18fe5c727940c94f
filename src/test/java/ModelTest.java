/** Long runs of calls, each answered by the program and by the plain model. Numbers come of a fixed row, so each run is alike. */
final class ModelTest {
    private static final int RUNS = 400, CALLS = 500;
    private static long seed;

    public static void main(String[] args) {
        for (int run = 0; run < RUNS; run++) {
            seed = run * 7777L + 1;
            oneRun(run);
        }
        Check.end("ModelTest");
    }

    private static int below(int n) {
        seed = seed * 6364136223846793005L + 1442695040888963407L;
        return (int) ((seed >>> 33) % n);
    }

    private static int near(int n) {
        return below(12) == 0 ? below(n + 4) - 2 : below(n);
    }

    private static String text() {
        int people = 1 + below(6);
        int goods = below(9);
        StringBuilder s = new StringBuilder();
        for (int i = 0; i < people; i++) {
            int kind = below(3) == 0 ? 3 : below(5);
            s.append('p').append(kind).append(',').append(below(4) == 0 ? below(10) : below(100)).append(',').append(below(21)).append(';');
        }
        for (int g = 0; g < goods; g++) {
            s.append('g').append(below(4)).append(',').append(below(people)).append(',').append(1 + below(40)).append(',').append(below(9)).append(';');
        }
        for (int k = below(8); people > 1 && k > 0; k--) {
            int i = below(people);
            s.append('v').append(i).append(',').append((i + 1 + below(people - 1)) % people).append(',').append(below(21)).append(';');
        }
        if (below(3) > 0) {
            s.append('t').append(1 + below(20)).append(';');
        }
        if (below(4) == 0) {
            s.insert(below(s.length()), "pgvt;,0129 ".charAt(below(11)));
        }
        return s.substring(0, Math.min(200, below(9) == 0 ? below(s.length()) : s.length()));
    }

    private static void oneRun(int run) {
        DutyOnLeft x = new DutyOnLeft();
        Model m = new Model();
        int calls = CALLS;
        if (run % 5 != 0) {
            String text = text();
            for (int k = 0; k < text.length(); k++) {
                Check.due("write", m.write(text.charAt(k)), x.write(text.charAt(k)));
            }
            String where = "run " + run + ", text " + text;
            Check.due(where + ": fault", m.fault(), x.fault());
            Check.due(where + ": lay", m.lay(), x.lay());
            calls -= text.length() + 2;
        }
        for (int k = 0; k < calls; k++) {
            call("run " + run + ", call " + k + ", ", x, m, below(33));
        }
        Check.same("run " + run, all(m), Check.seen(x));
    }

    private static void call(String at, DutyOnLeft x, Model m, int which) {
        int i = near(6);
        int j = near(6);
        int g = near(8);
        int what = near(2);
        int n = 1 + near(4);
        int z = below(20) == 0 ? 9998 + below(4) : near(10000);
        boolean on = below(3) > 0;
        switch (which) {
            case 0: Check.due(at + "person", m.person(i, what * 2), x.person(i, what * 2)); break;
            case 1: Check.due(at + "good", m.good(g, n), x.good(g, n)); break;
            case 2: Check.due(at + "love", m.love(i, j), x.love(i, j)); break;
            case 3: case 4: case 5: case 6: Check.due(at + "pack", m.pack(g, on), x.pack(g, on)); break;
            case 7: case 8: case 9: Check.due(at + "give", m.give(g, j), x.give(g, j)); break;
            case 10: Check.due(at + "leave", m.leave(i), x.leave(i)); break;
            case 11: Check.due(at + "leaveBoth", m.leaveBoth(i, j), x.leaveBoth(i, j)); break;
            case 12: case 13: Check.due(at + "comeBack", m.comeBack(i), x.comeBack(i)); break;
            case 14: case 15: Check.due(at + "undo", m.undo(), x.undo()); break;
            case 16: Check.due(at + "owes", m.owes(i), x.owes(i)); break;
            case 17: Check.due(at + "owesWith", m.owesWith(i, j), x.owesWith(i, j)); break;
            case 18: Check.due(at + "packing", m.packing(i, what), x.packing(i, what)); break;
            case 19: Check.due(at + "giving", m.giving(g, what), x.giving(g, what)); break;
            case 20: Check.due(at + "order", m.order(n - 1), x.order(n - 1)); break;
            case 21: Check.due(at + "stuck", m.stuck(), x.stuck()); break;
            case 22: sworn(at, x, m, i); break;
            case 23: forgotten(at, x, m); break;
            case 24: Check.due(at + "isFalse", m.isFalse(n - 1), x.isFalse(n - 1)); break;
            case 25: Check.due(at + "loved", m.loved(n - 1, j, what), x.loved(n - 1, j, what)); break;
            case 26: Check.due(at + "byTurns", m.byTurns(i, j, n, what), x.byTurns(i, j, n, what)); break;
            case 27: Check.due(at + "chairs", m.chairs(z / 20), x.chairs(z / 20)); break;
            case 28: Check.due(at + "year", m.year(z, n * 10, what), x.year(z, n * 10, what)); break;
            case 29: Check.due(at + "keep", m.keep(), x.keep()); break;
            case 30: Check.due(at + "back", m.back(), x.back()); break;
            default: Check.due(at + "count", m.count(n + g), x.count(n + g)); break;
        }
    }

    private static void forgotten(String at, DutyOnLeft x, Model m) {
        if (below(4) == 0) {
            Check.due(at + "forget", m.forget(), x.forget());
        }
    }

    private static void sworn(String at, DutyOnLeft x, Model m, int i) {
        int owed = Math.max(0, m.owes(i));
        int sum = below(3) == 0 ? owed : Math.max(-1, owed - 10 + below(20));
        Check.due(at + "swear", m.swear(i, sum), x.swear(i, sum));
    }

    private static String all(Model m) {
        StringBuilder all = new StringBuilder();
        for (int k = 0; k <= 10; k++) {
            all.append(m.count(k)).append(' ');
        }
        for (int i = 0; i < 6; i++) {
            for (int what = 0; what < 5; what++) {
                all.append(m.person(i, what)).append(' ');
            }
        }
        for (int g = 0; g < 8; g++) {
            for (int what = 0; what < 5; what++) {
                all.append(m.good(g, what)).append(' ');
            }
        }
        return all.toString();
    }
}
