import java.math.BigInteger;
import java.util.ArrayList;
import java.util.Arrays;
import java.util.List;
import java.util.regex.Matcher;
import java.util.regex.Pattern;

/** The document once more, as plain and slow as can be: copies of everything, all orders and all sets one by one. */
final class Model {
    static final int BAD = -1, NO = -2, FULL = -3, NONE = -4;
    static final String FIRST = "p0,60,9;p1,30,4;p3,20,2;p4,5,3;p2,40,6;g0,0,20,8;g1,0,9,0;g2,2,12,0;g0,1,7,3;g3,3,40,20;g0,4,15,5;"
        + "v0,1,8;v1,0,6;v2,3,10;v3,2,9;v4,0,5;v0,4,5;t8;";

    static final class Person {
        int kind, coins, strength, paid, last;
        boolean here = true;
    }

    static final class Good {
        int kind, worth, heavy;
        Integer owner;
        boolean packed;
    }

    static final class World {
        List<Person> persons = new ArrayList<>();
        List<Good> goods = new ArrayList<>();
        int[][] love = new int[6][6];
        int tenths = 10;

        World copy() {
            World w = new World();
            for (Person p : persons) {
                Person q = new Person();
                q.kind = p.kind;
                q.coins = p.coins;
                q.strength = p.strength;
                q.paid = p.paid;
                q.last = p.last;
                q.here = p.here;
                w.persons.add(q);
            }
            for (Good g : goods) {
                Good h = new Good();
                h.kind = g.kind;
                h.worth = g.worth;
                h.heavy = g.heavy;
                h.owner = g.owner;
                h.packed = g.packed;
                w.goods.add(h);
            }
            for (int i = 0; i < 6; i++) {
                w.love[i] = love[i].clone();
            }
            w.tenths = tenths;
            return w;
        }
    }

    private String text = "";
    private World world = read(FIRST, new int[1]);
    private final List<World> undone = new ArrayList<>();
    private final List<World> kept = new ArrayList<>();
    private final List<int[]> sworn = new ArrayList<>();

    /** The family of a text; fault[0] is where it has its fault, -4 without. */
    static World read(String text, int[] fault) {
        World w = new World();
        Pattern item = Pattern.compile("([pgvt])(\\d\\d?(?:,\\d\\d?)*);");
        Matcher m = item.matcher(text);
        int at = 0;
        while (at < text.length()) {
            if (!m.find(at) || m.start() != at || !tell(w, m.group(1), m.group(2).split(","))) {
                fault[0] = at;
                return w;
            }
            at = m.end();
        }
        fault[0] = NONE;
        return w;
    }

    private static boolean tell(World w, String letter, String[] parts) {
        int[] n = Arrays.stream(parts).mapToInt(Integer::parseInt).toArray();
        int people = w.persons.size();
        if (letter.equals("p") && n.length == 3 && n[0] <= 4 && n[2] <= 20 && people < 6) {
            Person p = new Person();
            p.kind = n[0];
            p.coins = n[1];
            p.strength = n[2];
            w.persons.add(p);
            return true;
        }
        if (letter.equals("g") && n.length == 4 && n[0] <= 3 && n[1] < people && n[2] >= 1 && n[2] <= 40 && n[3] <= 20 && w.goods.size() < 8) {
            Good g = new Good();
            g.kind = n[0];
            g.owner = n[1];
            g.worth = n[2];
            g.heavy = n[3];
            w.goods.add(g);
            return true;
        }
        if (letter.equals("v") && n.length == 3 && n[0] != n[1] && n[0] < people && n[1] < people && n[2] <= 20) {
            w.love[n[0]][n[1]] = n[2];
            return true;
        }
        if (letter.equals("t") && n.length == 1 && n[0] >= 1 && n[0] <= 20) {
            w.tenths = n[0];
            return true;
        }
        return false;
    }

    private static int counts(Good g) {
        int[] all = {g.worth, -g.worth, 3 * g.worth, g.worth / 2};
        return all[g.kind];
    }

    private static int duty(World w, int i, int left) {
        int[] parts = {1, 2, 2, 1, 3};
        return (left < 0 ? 0 : left) * w.tenths / 10 / parts[w.persons.get(i).kind];
    }

    private static boolean owns(World w, int i, Good g) {
        return g.owner != null && g.owner == i;
    }

    private static int owed(World w, int i, int with) {
        int left = 0;
        for (Good g : w.goods) {
            if (owns(w, i, g) && !g.packed) {
                left += counts(g);
            }
        }
        for (int j = 0; j < w.persons.size(); j++) {
            if (j != i && w.persons.get(j).here) {
                left += j == with ? w.love[i][j] / 2 : w.love[i][j];
            }
        }
        return duty(w, i, left);
    }

    private static boolean lonely(World w) {
        int here = 0;
        boolean grandmother = false;
        for (Person p : w.persons) {
            if (p.here) {
                here++;
                grandmother = p.kind == 3;
            }
        }
        return here == 1 && grandmother;
    }

    private static void goes(World w, int i, int fee) {
        Person p = w.persons.get(i);
        p.coins -= fee;
        p.paid += fee;
        p.last = fee;
        p.here = false;
        for (Good g : w.goods) {
            if (owns(w, i, g) && !g.packed) {
                g.owner = null;
            }
        }
    }

    private static int leaves(World w, int i) {
        Person p = w.persons.get(i);
        int fee = owed(w, i, -1);
        World then = w.copy();
        then.persons.get(i).here = false;
        if (!p.here || fee > p.coins || lonely(then)) {
            return NO;
        }
        goes(w, i, fee);
        return fee;
    }

    private static int returns(World w, int i) {
        Person p = w.persons.get(i);
        int fee = p.kind == 2 ? p.last : 0;
        if (p.here || fee > p.coins) {
            return NO;
        }
        p.coins -= fee;
        p.paid += fee;
        p.here = true;
        return fee;
    }

    private boolean isPerson(int i) {
        return i >= 0 && i < world.persons.size();
    }

    private boolean isGood(int g) {
        return g >= 0 && g < world.goods.size();
    }

    private boolean isHere(Integer i) {
        return i != null && world.persons.get(i).here;
    }

    private static boolean in(int a, int low, int high) {
        return a >= low && a <= high;
    }

    private void done(World before) {
        undone.add(before);
        if (undone.size() > 8) {
            undone.remove(0);
        }
    }

    int write(int letter) {
        if (!in(letter, 32, 126)) {
            return BAD;
        }
        if (text.length() == 200) {
            return FULL;
        }
        text += (char) letter;
        return text.length();
    }

    int wipe() {
        int n = text.length();
        text = "";
        return n;
    }

    int fault() {
        int[] fault = new int[1];
        read(text, fault);
        return fault[0];
    }

    int lay() {
        int[] fault = new int[1];
        World w = read(text, fault);
        if (fault[0] != NONE || w.persons.isEmpty()) {
            return NO;
        }
        world = w;
        undone.clear();
        kept.clear();
        sworn.clear();
        return w.persons.size();
    }

    int person(int i, int what) {
        if (!isPerson(i) || !in(what, 0, 4)) {
            return BAD;
        }
        Person p = world.persons.get(i);
        return new int[] {p.kind, p.coins, p.strength, p.here ? 1 : 0, p.paid}[what];
    }

    int good(int g, int what) {
        if (!isGood(g) || !in(what, 0, 4)) {
            return BAD;
        }
        Good x = world.goods.get(g);
        return new int[] {x.kind, x.owner == null ? NONE : x.owner, x.worth, x.heavy, x.packed ? 1 : 0}[what];
    }

    int love(int i, int j) {
        return isPerson(i) && isPerson(j) && i != j ? world.love[i][j] : BAD;
    }

    private static int load(World w, int i) {
        int sum = 0;
        for (Good g : w.goods) {
            sum += owns(w, i, g) && g.packed ? g.heavy : 0;
        }
        return sum;
    }

    int pack(int g, boolean packed) {
        if (!isGood(g)) {
            return BAD;
        }
        World w = world.copy();
        Good x = w.goods.get(g);
        if (!isHere(x.owner) || x.packed == packed || x.kind == 2) {
            return NO;
        }
        x.packed = packed;
        if (packed && load(w, x.owner) > w.persons.get(x.owner).strength) {
            return NO;
        }
        done(world);
        world = w;
        return load(w, x.owner);
    }

    int give(int g, int j) {
        if (!isGood(g) || !isPerson(j)) {
            return BAD;
        }
        World w = world.copy();
        Good x = w.goods.get(g);
        if (!isHere(x.owner) || !isHere(j) || x.owner == j) {
            return NO;
        }
        int was = x.owner;
        x.owner = j;
        x.packed = false;
        done(world);
        world = w;
        return was;
    }

    int leave(int i) {
        if (!isPerson(i)) {
            return BAD;
        }
        World w = world.copy();
        int fee = leaves(w, i);
        if (fee >= 0) {
            done(world);
            world = w;
        }
        return fee;
    }

    int leaveBoth(int i, int j) {
        if (!isPerson(i) || !isPerson(j) || i == j) {
            return BAD;
        }
        int a = owed(world, i, j);
        int b = owed(world, j, i);
        World w = world.copy();
        if (!isHere(i) || !isHere(j) || a > w.persons.get(i).coins || b > w.persons.get(j).coins) {
            return NO;
        }
        goes(w, i, a);
        goes(w, j, b);
        if (lonely(w)) {
            return NO;
        }
        done(world);
        world = w;
        return a + b;
    }

    int comeBack(int i) {
        if (!isPerson(i)) {
            return BAD;
        }
        World w = world.copy();
        int fee = returns(w, i);
        if (fee >= 0) {
            done(world);
            world = w;
        }
        return fee;
    }

    int undo() {
        if (undone.isEmpty()) {
            return NO;
        }
        world = undone.remove(undone.size() - 1);
        return undone.size();
    }

    int owes(int i) {
        return !isPerson(i) ? BAD : !isHere(i) ? NO : owed(world, i, -1);
    }

    int owesWith(int i, int j) {
        return !isPerson(i) || !isPerson(j) || i == j ? BAD : !isHere(i) || !isHere(j) ? NO : owed(world, i, j);
    }

    int packing(int i, int what) {
        if (!isPerson(i) || !in(what, 0, 1)) {
            return BAD;
        }
        if (!isHere(i)) {
            return NO;
        }
        int[] best = null;
        for (int set = 0; set < 1 << world.goods.size(); set++) {
            World w = world.copy();
            boolean fits = true;
            for (int g = 0; g < w.goods.size(); g++) {
                Good x = w.goods.get(g);
                boolean in = (set & 1 << g) != 0;
                fits &= !in || owns(w, i, x) && x.kind != 2;
                if (owns(w, i, x)) {
                    x.packed = in;
                }
            }
            if (fits && load(w, i) <= w.persons.get(i).strength && (best == null || owed(w, i, -1) < best[1])) {
                best = new int[] {set, owed(w, i, -1)};
            }
        }
        return best[what];
    }

    int giving(int g, int what) {
        if (!isGood(g) || !in(what, 0, 1)) {
            return BAD;
        }
        Integer owner = world.goods.get(g).owner;
        if (!isHere(owner)) {
            return NO;
        }
        int[] best = {NONE, NONE};
        for (int j = world.persons.size() - 1; j >= 0; j--) {
            if (j == owner || !isHere(j)) {
                continue;
            }
            World w = world.copy();
            w.goods.get(g).owner = j;
            w.goods.get(g).packed = false;
            int sum = 0;
            for (int i = 0; i < w.persons.size(); i++) {
                sum += w.persons.get(i).here ? owed(w, i, -1) : 0;
            }
            if (best[0] == NONE || sum <= best[1]) {
                best = new int[] {j, sum};
            }
        }
        return best[what];
    }

    private static void orders(World w, int sum, List<Integer> gone, List<int[]> all) {
        boolean some = false;
        for (int i = 0; i < w.persons.size(); i++) {
            if (!w.persons.get(i).here) {
                continue;
            }
            some = true;
            World then = w.copy();
            then.persons.get(i).here = false;
            if (!lonely(then)) {
                List<Integer> next = new ArrayList<>(gone);
                next.add(i);
                orders(then, sum + owed(w, i, -1), next, all);
            }
        }
        if (!some) {
            int[] row = new int[gone.size() + 1];
            row[0] = sum;
            for (int k = 0; k < gone.size(); k++) {
                row[k + 1] = gone.get(k);
            }
            all.add(row);
        }
    }

    int order(int k) {
        if (!in(k, 0, 6)) {
            return BAD;
        }
        List<int[]> all = new ArrayList<>();
        orders(world, 0, new ArrayList<>(), all);
        int[] best = null;
        for (int[] row : all) {
            best = best == null || row[0] < best[0] ? row : best;
        }
        return best == null || k >= best.length ? NONE : best[k];
    }

    int stuck() {
        int bits = 0;
        for (int i = 0; i < world.persons.size(); i++) {
            bits += isHere(i) && leaves(world.copy(), i) == NO ? 1 << i : 0;
        }
        return bits;
    }

    int swear(int i, int k) {
        if (!isPerson(i) || !in(k, 0, 999)) {
            return BAD;
        }
        if (!isHere(i)) {
            return NO;
        }
        if (sworn.size() == 6) {
            return FULL;
        }
        sworn.add(new int[] {i, k});
        return sworn.size();
    }

    int forget() {
        int n = sworn.size();
        sworn.clear();
        return n;
    }

    int isFalse(int k) {
        if (!in(k, 0, sworn.size() - 1)) {
            return BAD;
        }
        int i = sworn.get(k)[0];
        if (!isHere(i)) {
            return NO;
        }
        int bits = owed(world, i, -1) == sworn.get(k)[1] ? 256 : 0;
        for (int g = 0; g < world.goods.size(); g++) {
            World w = world.copy();
            Good x = w.goods.remove(g);
            bits += owns(w, i, x) && !x.packed && owed(w, i, -1) == sworn.get(k)[1] ? 1 << g : 0;
        }
        return bits;
    }

    int loved(int k, int j, int what) {
        if (!in(k, 0, sworn.size() - 1) || !isPerson(j) || j == sworn.get(k)[0] || !in(what, 0, 1)) {
            return BAD;
        }
        int i = sworn.get(k)[0];
        if (!isHere(i) || !isHere(j)) {
            return NO;
        }
        List<Integer> worths = new ArrayList<>();
        for (int v = 0; v <= 20; v++) {
            World w = world.copy();
            w.love[i][j] = v;
            if (owed(w, i, -1) == sworn.get(k)[1]) {
                worths.add(v);
            }
        }
        return what == 0 ? worths.size() : worths.isEmpty() ? NONE : worths.get(0);
    }

    /** What the one owes who has the turn at the end, what the other one owes, what is given. */
    private static int[] turns(World w, int mover, int other, int n) {
        if (n == 0) {
            return new int[] {owed(w, mover, -1), owed(w, other, -1), NONE};
        }
        int[] best = null;
        for (int g = -1; g < w.goods.size(); g++) {
            World then = w.copy();
            if (g >= 0) {
                Good x = then.goods.get(g);
                if (!owns(then, mover, x) || x.packed) {
                    continue;
                }
                x.owner = other;
            }
            int[] end = turns(then, other, mover, n - 1);
            if (best == null || end[1] < best[0]) {
                best = new int[] {end[1], end[0], g < 0 ? NONE : g};
            }
        }
        return best;
    }

    int byTurns(int i, int j, int n, int what) {
        if (!isPerson(i) || !isPerson(j) || i == j || !in(n, 1, 4) || !in(what, 0, 1)) {
            return BAD;
        }
        if (!isHere(i) || !isHere(j)) {
            return NO;
        }
        int[] end = turns(world, i, j, n);
        return what == 0 ? end[0] : end[2];
    }

    int chairs(int k) {
        if (!in(k, 0, 999)) {
            return BAD;
        }
        List<Integer> all = new ArrayList<>();
        for (Good g : world.goods) {
            if (isHere(g.owner)) {
                all.add(counts(g));
            }
        }
        all.sort((a, b) -> b - a);
        int sum = 0;
        for (int n = 0; n <= all.size(); n++) {
            if (sum >= k) {
                return n;
            }
            sum += n < all.size() ? all.get(n) : 0;
        }
        return NONE;
    }

    int year(int z, int n, int what) {
        if (!in(z, 0, 9999) || !in(n, 1, 40) || !in(what, 0, 1)) {
            return BAD;
        }
        World w = world.copy();
        int paid = 0;
        for (int k = 0; k < n; k++) {
            BigInteger x = BigInteger.valueOf(7919).multiply(BigInteger.valueOf(z)).add(BigInteger.valueOf(6151L * k)).add(BigInteger.ONE);
            BigInteger draw = x.pow(2).mod(BigInteger.valueOf(65521)).divide(BigInteger.valueOf(8));
            int i = draw.mod(BigInteger.valueOf(w.persons.size())).intValue();
            int fee = w.persons.get(i).here ? leaves(w, i) : returns(w, i);
            paid += Math.max(fee, 0);
        }
        int gone = (int) w.persons.stream().filter(p -> !p.here).count();
        return what == 0 ? gone : paid;
    }

    int keep() {
        if (kept.size() == 2) {
            return FULL;
        }
        kept.add(world.copy());
        return kept.size();
    }

    int back() {
        if (kept.isEmpty()) {
            return NO;
        }
        world = kept.remove(kept.size() - 1);
        undone.clear();
        return kept.size();
    }

    int count(int what) {
        if (!in(what, 0, 10)) {
            return BAD;
        }
        int gone = 0;
        int paid = 0;
        int packed = 0;
        int nobodys = 0;
        for (Person p : world.persons) {
            gone += p.here ? 0 : 1;
            paid += p.paid;
        }
        for (Good g : world.goods) {
            packed += g.packed ? 1 : 0;
            nobodys += g.owner == null ? 1 : 0;
        }
        return new int[] {world.persons.size(), world.goods.size(), gone, packed, nobodys, paid, world.tenths, sworn.size(), undone.size(),
            kept.size(), text.length()}[what];
    }
}
