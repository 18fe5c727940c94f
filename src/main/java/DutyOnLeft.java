/**
 * Duty on what's left: a family at a frontier where duty is paid on what one leaves behind.
 * What each call answers is told in the project's document, by the numbers of its promises.
 */
public final class DutyOnLeft {
    public static final int BAD = -1, NO = -2, FULL = -3, NONE = -4;

    private static final int SMUGGLER = 1, BRIDE = 2, GRANDMOTHER = 3, CHILD = 4;
    private static final int DEBT = 1, GRAVE = 2, HOUSE = 3;
    private static final int MOST_LETTERS = 200, MOST_PERSONS = 6, MOST_GOODS = 8;
    private static final int MOST_STRENGTH = 20, MOST_WORTH = 40, MOST_HEAVY = 20;
    private static final int MOST_LOVE = 20, MOST_TENTHS = 20, USUAL_TENTHS = 10;
    private static final int MOST_UNDONE = 8, MOST_KEPT = 2, MOST_SWORN = 6;
    private static final int MOST_SUM = 999, MOST_TURNS = 4, MOST_SEED = 9999, MOST_STEPS = 40;
    private static final int TRUE_OATH = 256;
    private static final String FIRST_FAMILY = "p0,60,9;p1,30,4;p3,20,2;p4,5,3;p2,40,6;g0,0,20,8;g1,0,9,0;g2,2,12,0;g0,1,7,3;g3,3,40,20;g0,4,15,5;v0,1,8;v1,0,6;v2,3,10;v3,2,9;v4,0,5;v0,4,5;t8;";

    private final Text text = new Text();
    private final Reader reader = new Reader();
    private final Standing now = new Standing();
    // For what is only thought of: every such call copies now into it first.
    private final Standing trial = new Standing();
    private final Pile undone = new Pile(MOST_UNDONE);
    private final Pile kept = new Pile(MOST_KEPT);
    private final Oaths oaths = new Oaths();
    private final Orders orders = new Orders();
    private final int[] gifts = new int[MOST_TURNS + 1];
    private Family family = new Family();
    // A text is read into this one, so that a text with a fault leaves the family alone.
    private Family draft = new Family();

    public DutyOnLeft() {
        for (int k = 0; k < FIRST_FAMILY.length(); k++) {
            text.add(FIRST_FAMILY.charAt(k));
        }
        reader.firstFault(text, family);
        now.begin(family);
        text.empty();
    }

    // ---- families

    public int write(int letter) {
        if (letter < 32 || letter > 126) {
            return BAD;
        }
        return text.add((char) letter) ? text.length : FULL;
    }

    public int wipe() {
        int was = text.length;
        text.empty();
        return was;
    }

    public int fault() {
        return reader.firstFault(text, draft);
    }

    public int lay() {
        if (reader.firstFault(text, draft) != NONE || draft.persons < 1) {
            return NO;
        }
        Family before = family;
        family = draft;
        draft = before;
        now.begin(family);
        undone.empty();
        kept.empty();
        oaths.empty();
        return family.persons;
    }

    public int person(int i, int what) {
        if (!family.isPerson(i)) {
            return BAD;
        }
        switch (what) {
            case 0: return family.kindOf(i);
            case 1: return now.coinsOf(i);
            case 2: return family.strengthOf(i);
            case 3: return now.isHere(i) ? 1 : 0;
            case 4: return now.paidBy(i);
            default: return BAD;
        }
    }

    public int good(int g, int what) {
        if (!family.isGood(g)) {
            return BAD;
        }
        switch (what) {
            case 0: return family.sortOf(g);
            case 1: return now.ownerOf(g);
            case 2: return family.worthOf(g);
            case 3: return family.heavyOf(g);
            case 4: return now.isPacked(g) ? 1 : 0;
            default: return BAD;
        }
    }

    public int love(int i, int j) {
        return isPair(i, j) ? family.loveOf(i, j) : BAD;
    }

    // ---- packing, leaving

    public int pack(int g, boolean packed) {
        if (!family.isGood(g)) {
            return BAD;
        }
        int owner = now.ownerOf(g);
        if (!now.isHere(owner) || now.isPacked(g) == packed || family.sortOf(g) == GRAVE) {
            return NO;
        }
        int load = Duty.load(family, now.owned(owner) & now.packed);
        int then = packed ? load + family.heavyOf(g) : load - family.heavyOf(g);
        if (packed && then > family.strengthOf(owner)) {
            return NO;
        }
        undone.put(now);
        now.setPacked(g, packed);
        return then;
    }

    public int give(int g, int j) {
        if (!family.isGood(g) || !family.isPerson(j)) {
            return BAD;
        }
        int owner = now.ownerOf(g);
        if (owner == j || !now.isHere(owner) || !now.isHere(j)) {
            return NO;
        }
        undone.put(now);
        now.handOver(g, j);
        return owner;
    }

    public int leave(int i) {
        if (!family.isPerson(i)) {
            return BAD;
        }
        int fee = Frontier.feeToLeave(family, now, i);
        if (fee < 0) {
            return NO;
        }
        undone.put(now);
        Frontier.depart(now, i, fee);
        return fee;
    }

    public int leaveBoth(int i, int j) {
        if (!isPair(i, j)) {
            return BAD;
        }
        if (!areHere(i, j)) {
            return NO;
        }
        int fee = Duty.owedWith(family, now, i, j);
        int other = Duty.owedWith(family, now, j, i);
        int behind = now.here & ~(1 << i) & ~(1 << j);
        if (fee > now.coinsOf(i) || other > now.coinsOf(j) || family.isLonelyGrandmother(behind)) {
            return NO;
        }
        undone.put(now);
        Frontier.depart(now, i, fee);
        Frontier.depart(now, j, other);
        return fee + other;
    }

    public int comeBack(int i) {
        if (!family.isPerson(i)) {
            return BAD;
        }
        int fee = Frontier.feeToReturn(family, now, i);
        if (fee < 0) {
            return NO;
        }
        undone.put(now);
        Frontier.arrive(now, i, fee);
        return fee;
    }

    public int undo() {
        return undone.take(now) ? undone.held : NO;
    }

    // ---- what one owes

    public int owes(int i) {
        if (!family.isPerson(i)) {
            return BAD;
        }
        return now.isHere(i) ? Duty.owed(family, now, i) : NO;
    }

    public int owesWith(int i, int j) {
        if (!isPair(i, j)) {
            return BAD;
        }
        return areHere(i, j) ? Duty.owedWith(family, now, i, j) : NO;
    }

    public int packing(int i, int what) {
        if (!family.isPerson(i) || !isAsked(what)) {
            return BAD;
        }
        if (!now.isHere(i)) {
            return NO;
        }
        int best = Duty.bestLoad(family, now, i);
        return what == 0 ? best : Duty.owedPacking(family, now, i, best);
    }

    public int giving(int g, int what) {
        if (!family.isGood(g) || !isAsked(what)) {
            return BAD;
        }
        int owner = now.ownerOf(g);
        if (!now.isHere(owner)) {
            return NO;
        }
        int who = NONE;
        int least = NONE;
        for (int j = 0; j < family.persons; j++) {
            if (j != owner && now.isHere(j)) {
                int sum = owedByAllAfterGiving(g, j);
                if (who == NONE || sum < least) {
                    who = j;
                    least = sum;
                }
            }
        }
        return what == 0 ? who : least;
    }

    public int order(int k) {
        if (k < 0 || k > MOST_PERSONS) {
            return BAD;
        }
        orders.reckon(family, now);
        int least = orders.least(now.here);
        return k == 0 || least == NONE ? least : orders.leaver(now.here, k);
    }

    public int stuck() {
        int bits = 0;
        for (int i = 0; i < family.persons; i++) {
            if (now.isHere(i) && Frontier.feeToLeave(family, now, i) < 0) {
                bits |= 1 << i;
            }
        }
        return bits;
    }

    // ---- what was sworn

    public int swear(int i, int k) {
        if (!family.isPerson(i) || !isSum(k)) {
            return BAD;
        }
        if (!now.isHere(i)) {
            return NO;
        }
        return oaths.add(i, k) ? oaths.many : FULL;
    }

    public int forget() {
        int were = oaths.many;
        oaths.empty();
        return were;
    }

    public int isFalse(int k) {
        if (!oaths.holds(k)) {
            return BAD;
        }
        int i = oaths.swearer(k);
        if (!now.isHere(i)) {
            return NO;
        }
        int sum = oaths.sum(k);
        int left = Duty.left(family, now, i);
        int bits = Duty.onLeft(family, i, left) == sum ? TRUE_OATH : 0;
        for (int g = 0; g < family.goods; g++) {
            if (now.lies(g, i) && Duty.onLeft(family, i, left - family.countOf(g)) == sum) {
                bits |= 1 << g;
            }
        }
        return bits;
    }

    public int loved(int k, int j, int what) {
        if (!oaths.holds(k) || !isPair(oaths.swearer(k), j) || !isAsked(what)) {
            return BAD;
        }
        int i = oaths.swearer(k);
        if (!areHere(i, j)) {
            return NO;
        }
        int unloved = Duty.left(family, now, i) - family.loveOf(i, j);
        int many = 0;
        int lowest = NONE;
        for (int v = MOST_LOVE; v >= 0; v--) {
            if (Duty.onLeft(family, i, unloved + v) == oaths.sum(k)) {
                many++;
                lowest = v;
            }
        }
        return what == 0 ? many : lowest;
    }

    // ---- turns, chairs, years

    public int byTurns(int i, int j, int n, int what) {
        if (!isPair(i, j) || n < 1 || n > MOST_TURNS || !isAsked(what)) {
            return BAD;
        }
        if (!areHere(i, j)) {
            return NO;
        }
        trial.copy(now);
        int ends = Turns.play(family, trial, gifts, i, j, n);
        return what == 0 ? Turns.movers(ends) : Rows.get(gifts, n);
    }

    public int chairs(int k) {
        if (!isSum(k)) {
            return BAD;
        }
        int theirs = 0;
        for (int i = 0; i < family.persons; i++) {
            theirs |= now.isHere(i) ? now.owned(i) : 0;
        }
        int fewest = NONE;
        for (int set = 0; set < 1 << MOST_GOODS; set++) {
            boolean fewer = fewest == NONE || Integer.bitCount(set) < fewest;
            if ((set & ~theirs) == 0 && fewer && Duty.worth(family, set) >= k) {
                fewest = Integer.bitCount(set);
            }
        }
        return fewest;
    }

    public int year(int z, int n, int what) {
        if (z < 0 || z > MOST_SEED || n < 1 || n > MOST_STEPS || !isAsked(what)) {
            return BAD;
        }
        trial.copy(now);
        int paid = 0;
        for (int k = 0; k < n; k++) {
            paid += Frontier.cross(family, trial, drawn(z, k));
        }
        return what == 0 ? gone(trial) : paid;
    }

    public int keep() {
        if (kept.held >= MOST_KEPT) {
            return FULL;
        }
        kept.put(now);
        return kept.held;
    }

    public int back() {
        if (!kept.take(now)) {
            return NO;
        }
        undone.empty();
        return kept.held;
    }

    public int count(int what) {
        switch (what) {
            case 0: return family.persons;
            case 1: return family.goods;
            case 2: return gone(now);
            case 3: return Integer.bitCount(now.packed);
            case 4: return Integer.bitCount(now.owned(NONE));
            case 5: return paidInAll();
            case 6: return family.tenths;
            case 7: return oaths.many;
            case 8: return undone.held;
            case 9: return kept.held;
            case 10: return text.length;
            default: return BAD;
        }
    }

    private static boolean isAsked(int what) {
        return what == 0 || what == 1;
    }

    private static boolean isSum(int k) {
        return k >= 0 && k <= MOST_SUM;
    }

    private boolean isPair(int i, int j) {
        return i != j && family.isPerson(i) && family.isPerson(j);
    }

    private boolean areHere(int i, int j) {
        return now.isHere(i) && now.isHere(j);
    }

    private int gone(Standing at) {
        return family.persons - Integer.bitCount(at.here);
    }

    private int paidInAll() {
        int sum = 0;
        for (int i = 0; i < family.persons; i++) {
            sum += now.paidBy(i);
        }
        return sum;
    }

    private int owedByAllAfterGiving(int g, int j) {
        trial.copy(now);
        trial.handOver(g, j);
        int sum = 0;
        for (int i = 0; i < family.persons; i++) {
            sum += trial.isHere(i) ? Duty.owed(family, trial, i) : 0;
        }
        return sum;
    }

    // Long, because x times x goes beyond an int.
    private int drawn(int z, int k) {
        long x = 7919L * z + 6151L * k + 1;
        long draw = x * x % 65521 / 8;
        return family.persons < 1 ? 0 : (int) (draw % family.persons);
    }

    /** Rows of numbers whose every index is looked at: outside of a row stands 0. */
    private static final class Rows {
        static int get(int[] row, int at) {
            return at >= 0 && at < row.length ? row[at] : 0;
        }

        static void put(int[] row, int at, int value) {
            if (at >= 0 && at < row.length) {
                row[at] = value;
            }
        }

        static void fill(int[] row, int value) {
            for (int at = 0; at < row.length; at++) {
                row[at] = value;
            }
        }

        static void copy(int[] from, int[] to) {
            for (int at = 0; at < from.length && at < to.length; at++) {
                to[at] = from[at];
            }
        }
    }

    /** THE TEXT. */
    private static final class Text {
        private final char[] letters = new char[MOST_LETTERS];
        int length = 0;

        boolean add(char letter) {
            if (length < 0 || length >= letters.length) {
                return false;
            }
            letters[length] = letter;
            length++;
            return true;
        }

        void empty() {
            length = 0;
        }

        // Behind the end stands a sign that no ITEM has.
        char sign(int at) {
            return at >= 0 && at < length && at < letters.length ? letters[at] : ' ';
        }
    }

    /** Reads a text into a family, as far as it has no fault. */
    private static final class Reader {
        private final int[] numbers = new int[4];

        int firstFault(Text text, Family into) {
            into.empty();
            int at = 0;
            for (int item = 0; item < MOST_LETTERS && at < text.length; item++) {
                int behind = behindNumbers(text, at + 1, numbersOf(text.sign(at)));
                if (behind < 0 || !tell(text.sign(at), into)) {
                    return at;
                }
                at = behind;
            }
            return NONE;
        }

        private static int numbersOf(char letter) {
            switch (letter) {
                case 'p': return 3;
                case 'g': return 4;
                case 'v': return 3;
                case 't': return 1;
                default: return 0;
            }
        }

        // The place behind the ; of an ITEM whose numbers begin at a place, or -1.
        private int behindNumbers(Text text, int begin, int many) {
            int at = begin;
            for (int k = 0; k < many; k++) {
                if (!isFigure(text.sign(at))) {
                    return -1;
                }
                int number = text.sign(at) - '0';
                at++;
                if (isFigure(text.sign(at))) {
                    number = number * 10 + text.sign(at) - '0';
                    at++;
                }
                Rows.put(numbers, k, number);
                if (text.sign(at) != (k == many - 1 ? ';' : ',')) {
                    return -1;
                }
                at++;
            }
            return many > 0 ? at : -1;
        }

        private static boolean isFigure(char sign) {
            return sign >= '0' && sign <= '9';
        }

        private boolean tell(char letter, Family into) {
            int a = Rows.get(numbers, 0);
            int b = Rows.get(numbers, 1);
            int c = Rows.get(numbers, 2);
            int d = Rows.get(numbers, 3);
            switch (letter) {
                case 'p': return into.addPerson(a, b, c);
                case 'g': return into.addGood(a, b, c, d);
                case 'v': return into.setLove(a, b, c);
                case 't': return into.setTenths(a);
                default: return false;
            }
        }
    }

    /** What a text tells: it stays as it is while the family stands. */
    private static final class Family {
        int persons = 0;
        int goods = 0;
        int tenths = USUAL_TENTHS;
        private final int[] kinds = new int[MOST_PERSONS];
        private final int[] purses = new int[MOST_PERSONS];
        private final int[] strengths = new int[MOST_PERSONS];
        private final int[] loves = new int[MOST_PERSONS * MOST_PERSONS];
        private final int[] sorts = new int[MOST_GOODS];
        private final int[] owners = new int[MOST_GOODS];
        private final int[] worths = new int[MOST_GOODS];
        private final int[] weights = new int[MOST_GOODS];
        private final int[] counts = new int[MOST_GOODS];

        void empty() {
            persons = 0;
            goods = 0;
            tenths = USUAL_TENTHS;
            Rows.fill(loves, 0);
        }

        boolean addPerson(int kind, int coins, int strength) {
            if (persons >= MOST_PERSONS || kind > CHILD || strength > MOST_STRENGTH) {
                return false;
            }
            Rows.put(kinds, persons, kind);
            Rows.put(purses, persons, coins);
            Rows.put(strengths, persons, strength);
            persons++;
            return true;
        }

        boolean addGood(int sort, int owner, int worth, int heavy) {
            boolean inBounds = worth >= 1 && worth <= MOST_WORTH && heavy <= MOST_HEAVY;
            if (goods >= MOST_GOODS || sort > HOUSE || !isPerson(owner) || !inBounds) {
                return false;
            }
            Rows.put(sorts, goods, sort);
            Rows.put(owners, goods, owner);
            Rows.put(worths, goods, worth);
            Rows.put(weights, goods, heavy);
            Rows.put(counts, goods, counted(sort, worth));
            goods++;
            return true;
        }

        boolean setLove(int i, int j, int v) {
            if (i == j || !isPerson(i) || !isPerson(j) || v > MOST_LOVE) {
                return false;
            }
            Rows.put(loves, MOST_PERSONS * i + j, v);
            return true;
        }

        boolean setTenths(int t) {
            if (t < 1 || t > MOST_TENTHS) {
                return false;
            }
            tenths = t;
            return true;
        }

        boolean isPerson(int i) {
            return i >= 0 && i < persons;
        }

        boolean isGood(int g) {
            return g >= 0 && g < goods;
        }

        int kindOf(int i) {
            return Rows.get(kinds, i);
        }

        int purseOf(int i) {
            return Rows.get(purses, i);
        }

        int strengthOf(int i) {
            return Rows.get(strengths, i);
        }

        int loveOf(int i, int j) {
            return isPerson(i) && isPerson(j) ? Rows.get(loves, MOST_PERSONS * i + j) : 0;
        }

        int sortOf(int g) {
            return Rows.get(sorts, g);
        }

        int firstOwnerOf(int g) {
            return isGood(g) ? Rows.get(owners, g) : NONE;
        }

        int worthOf(int g) {
            return Rows.get(worths, g);
        }

        int heavyOf(int g) {
            return Rows.get(weights, g);
        }

        // What a GOOD counts when it is LEFT.
        int countOf(int g) {
            return Rows.get(counts, g);
        }

        private static int counted(int sort, int worth) {
            switch (sort) {
                case DEBT: return -worth;
                case GRAVE: return 3 * worth;
                case HOUSE: return worth / 2;
                default: return worth;
            }
        }

        boolean isLonelyGrandmother(int here) {
            for (int i = 0; i < persons; i++) {
                if (here == 1 << i && kindOf(i) == GRANDMOTHER) {
                    return true;
                }
            }
            return false;
        }
    }

    /** All that changes by packing, giving, leaving and coming back. */
    private static final class Standing {
        int here = 0;
        int packed = 0;
        // NONE for a GOOD that is nobody's, and for one that there is not.
        private final int[] owners = new int[MOST_GOODS];
        private final int[] coins = new int[MOST_PERSONS];
        private final int[] paid = new int[MOST_PERSONS];
        private final int[] paidLast = new int[MOST_PERSONS];
        private int goods = 0;

        void begin(Family family) {
            here = (1 << family.persons) - 1;
            packed = 0;
            goods = family.goods;
            for (int g = 0; g < MOST_GOODS; g++) {
                Rows.put(owners, g, family.firstOwnerOf(g));
            }
            for (int i = 0; i < MOST_PERSONS; i++) {
                Rows.put(coins, i, family.purseOf(i));
            }
            Rows.fill(paid, 0);
            Rows.fill(paidLast, 0);
        }

        void copy(Standing from) {
            here = from.here;
            packed = from.packed;
            goods = from.goods;
            Rows.copy(from.owners, owners);
            Rows.copy(from.coins, coins);
            Rows.copy(from.paid, paid);
            Rows.copy(from.paidLast, paidLast);
        }

        boolean isHere(int i) {
            return i >= 0 && i < MOST_PERSONS && (here >> i & 1) == 1;
        }

        boolean isPacked(int g) {
            return g >= 0 && g < MOST_GOODS && (packed >> g & 1) == 1;
        }

        int ownerOf(int g) {
            return g >= 0 && g < goods ? Rows.get(owners, g) : NONE;
        }

        // Looks at the row itself: most of what is reckoned comes by here.
        boolean lies(int g, int i) {
            return g >= 0 && g < goods && g < owners.length && owners[g] == i && (packed >> g & 1) == 0;
        }

        // The GOODS of i as bits, packed or not; of NONE those that are nobody's.
        int owned(int i) {
            int bits = 0;
            for (int g = 0; g < goods; g++) {
                bits |= ownerOf(g) == i ? 1 << g : 0;
            }
            return bits;
        }

        int coinsOf(int i) {
            return Rows.get(coins, i);
        }

        int paidBy(int i) {
            return Rows.get(paid, i);
        }

        int paidLastBy(int i) {
            return Rows.get(paidLast, i);
        }

        void setPacked(int g, boolean on) {
            packed = on ? packed | 1 << g : packed & ~(1 << g);
        }

        void handOver(int g, int j) {
            Rows.put(owners, g, j);
            setPacked(g, false);
        }

        void pay(int i, int fee) {
            Rows.put(coins, i, coinsOf(i) - fee);
            Rows.put(paid, i, paidBy(i) + fee);
        }

        void goOut(int i, int fee) {
            here &= ~(1 << i);
            Rows.put(paidLast, i, fee);
            for (int g = 0; g < goods; g++) {
                if (lies(g, i)) {
                    Rows.put(owners, g, NONE);
                }
            }
        }

        void comeIn(int i) {
            here |= 1 << i;
        }
    }

    /** What is owed: sets of GOODS and of PERSONS are bits, so that others than now's can be tried. */
    private static final class Duty {
        static int worth(Family family, int goods) {
            int sum = 0;
            for (int g = 0; g < family.goods; g++) {
                sum += (goods >> g & 1) == 1 ? family.countOf(g) : 0;
            }
            return sum;
        }

        static int load(Family family, int goods) {
            int sum = 0;
            for (int g = 0; g < family.goods; g++) {
                sum += (goods >> g & 1) == 1 ? family.heavyOf(g) : 0;
            }
            return sum;
        }

        static int loveLeft(Family family, int i, int here) {
            int sum = 0;
            for (int j = 0; j < family.persons; j++) {
                sum += j != i && (here >> j & 1) == 1 ? family.loveOf(i, j) : 0;
            }
            return sum;
        }

        static int onLeft(Family family, int i, int left) {
            int duty = Math.max(left, 0) * family.tenths / 10;
            switch (family.kindOf(i)) {
                case SMUGGLER: return duty / 2;
                case BRIDE: return duty / 2;
                case CHILD: return duty / 3;
                default: return duty;
            }
        }

        static int left(Family family, Standing at, int i) {
            return goodsLeft(family, at, i) + loveLeft(family, i, at.here);
        }

        static int goodsLeft(Family family, Standing at, int i) {
            int sum = 0;
            for (int g = 0; g < family.goods; g++) {
                sum += at.lies(g, i) ? family.countOf(g) : 0;
            }
            return sum;
        }

        static int owed(Family family, Standing at, int i) {
            return onLeft(family, i, goodsLeft(family, at, i) + loveLeft(family, i, at.here));
        }

        static int owedWith(Family family, Standing at, int i, int j) {
            int love = family.loveOf(i, j);
            return onLeft(family, i, left(family, at, i) - love + love / 2);
        }

        static int owedAmong(Family family, Standing at, int i, int here) {
            return onLeft(family, i, goodsLeft(family, at, i) + loveLeft(family, i, here));
        }

        static int owedPacking(Family family, Standing at, int i, int set) {
            int goods = worth(family, at.owned(i) & ~set);
            return onLeft(family, i, goods + loveLeft(family, i, at.here));
        }

        static int bestLoad(Family family, Standing at, int i) {
            int mine = at.owned(i);
            for (int g = 0; g < family.goods; g++) {
                mine &= family.sortOf(g) == GRAVE ? ~(1 << g) : -1;
            }
            int best = 0;
            int least = owedPacking(family, at, i, 0);
            for (int set = 1; set < 1 << MOST_GOODS; set++) {
                if ((set & ~mine) == 0 && load(family, set) <= family.strengthOf(i)) {
                    int owed = owedPacking(family, at, i, set);
                    best = owed < least ? set : best;
                    least = Math.min(owed, least);
                }
            }
            return best;
        }
    }

    /** Leaving and coming back of one. */
    private static final class Frontier {
        // NO for one who is GONE, too.
        static int feeToLeave(Family family, Standing at, int i) {
            if (!at.isHere(i) || family.isLonelyGrandmother(at.here & ~(1 << i))) {
                return NO;
            }
            int owed = Duty.owed(family, at, i);
            return owed <= at.coinsOf(i) ? owed : NO;
        }

        // NO for one who is HERE, too.
        static int feeToReturn(Family family, Standing at, int i) {
            if (at.isHere(i)) {
                return NO;
            }
            int fee = family.kindOf(i) == BRIDE ? at.paidLastBy(i) : 0;
            return fee <= at.coinsOf(i) ? fee : NO;
        }

        static void depart(Standing at, int i, int fee) {
            at.pay(i, fee);
            at.goOut(i, fee);
        }

        static void arrive(Standing at, int i, int fee) {
            at.pay(i, fee);
            at.comeIn(i);
        }

        // Leaves or comes back, if he can: what he pays.
        static int cross(Family family, Standing at, int i) {
            boolean leaving = at.isHere(i);
            int fee = leaving ? feeToLeave(family, at, i) : feeToReturn(family, at, i);
            if (fee < 0) {
                return 0;
            }
            if (leaving) {
                depart(at, i, fee);
            } else {
                arrive(at, i, fee);
            }
            return fee;
        }
    }

    /** The latest standings that were put: the oldest one gives way. */
    private static final class Pile {
        private final Standing[] rows;
        private int next = 0;
        int held = 0;

        Pile(int most) {
            rows = new Standing[Math.max(most, 1)];
            for (int k = 0; k < rows.length; k++) {
                rows[k] = new Standing();
            }
        }

        void empty() {
            held = 0;
        }

        void put(Standing from) {
            Standing row = row(next);
            if (row == null) {
                return;
            }
            row.copy(from);
            next = next + 1 < rows.length ? next + 1 : 0;
            held = Math.min(held + 1, rows.length);
        }

        boolean take(Standing into) {
            int last = next > 0 ? next - 1 : rows.length - 1;
            Standing row = row(last);
            if (held < 1 || row == null) {
                return false;
            }
            into.copy(row);
            next = last;
            held--;
            return true;
        }

        private Standing row(int at) {
            return at >= 0 && at < rows.length ? rows[at] : null;
        }
    }

    /** What is SWORN. */
    private static final class Oaths {
        private final int[] swearers = new int[MOST_SWORN];
        private final int[] sums = new int[MOST_SWORN];
        int many = 0;

        boolean add(int i, int sum) {
            if (many >= MOST_SWORN) {
                return false;
            }
            Rows.put(swearers, many, i);
            Rows.put(sums, many, sum);
            many++;
            return true;
        }

        void empty() {
            many = 0;
        }

        boolean holds(int k) {
            return k >= 0 && k < many;
        }

        int swearer(int k) {
            return Rows.get(swearers, k);
        }

        int sum(int k) {
            return Rows.get(sums, k);
        }
    }

    /** For each set of PERSONS: the least they pay for all leaving, and the lowest who leaves first for it. */
    private static final class Orders {
        private final int[] leasts = new int[1 << MOST_PERSONS];
        private final int[] firsts = new int[1 << MOST_PERSONS];

        // The smaller sets have the lower numbers, so that each finds its rest reckoned.
        void reckon(Family family, Standing at) {
            Rows.put(leasts, 0, 0);
            Rows.put(firsts, 0, NONE);
            for (int set = 1; set < 1 << MOST_PERSONS; set++) {
                if ((set & ~at.here) == 0) {
                    reckonSet(family, at, set);
                }
            }
        }

        private void reckonSet(Family family, Standing at, int set) {
            int least = NONE;
            int first = NONE;
            for (int i = 0; i < family.persons; i++) {
                int rest = set & ~(1 << i);
                if (rest == set || family.isLonelyGrandmother(rest) || least(rest) == NONE) {
                    continue;
                }
                int sum = least(rest) + Duty.owedAmong(family, at, i, set);
                if (least == NONE || sum < least) {
                    least = sum;
                    first = i;
                }
            }
            Rows.put(leasts, set, least);
            Rows.put(firsts, set, first);
        }

        // NONE: there is no such order.
        int least(int set) {
            return Rows.get(leasts, set);
        }

        int leaver(int here, int k) {
            int set = here;
            for (int place = 1; place < k && set > 0; place++) {
                set &= ~(1 << Rows.get(firsts, set));
            }
            return set > 0 ? Rows.get(firsts, set) : NONE;
        }
    }

    /** Two who give away by turns; how it ends is what both owe, as one number. */
    private static final class Turns {
        // Above all that one can owe.
        private static final int PAIR = 4096;

        // How it ends for the one who has the turn and the other one; gifts keeps by the turns left what is given.
        private static int play(Family family, Standing at, int[] gifts, int mover, int other, int left) {
            if (left <= 0) {
                return Duty.owed(family, at, mover) * PAIR + Duty.owed(family, at, other);
            }
            // Nothing is tried first, and only what is better takes its place: so what is alike gives nothing.
            int best = swapped(play(family, at, gifts, other, mover, left - 1));
            int gift = NONE;
            for (int g = 0; g < family.goods; g++) {
                if (at.lies(g, mover)) {
                    at.handOver(g, other);
                    int ends = swapped(play(family, at, gifts, other, mover, left - 1));
                    at.handOver(g, mover);
                    if (movers(ends) < movers(best)) {
                        best = ends;
                        gift = g;
                    }
                }
            }
            Rows.put(gifts, left, gift);
            return best;
        }

        static int movers(int ends) {
            return ends / PAIR;
        }

        private static int swapped(int ends) {
            return ends % PAIR * PAIR + ends / PAIR;
        }
    }
}
