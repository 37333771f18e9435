import java.util.Arrays;
import java.util.NoSuchElementException;

/** A cupboard in which bowls stand within bowls. The words in capitals are those of the document. */
public final class BowlShelf {
    public static final int NONE = -1;

    private static final int MOST_WARES = 12;
    private static final int MOST_SHELVES = 4;
    private static final int MOST_NESTS = 4;
    private static final int MOST_ASKINGS = 30;
    private static final int MOST_SIGNS = 1000;
    private static final int MOST_MARKS = 4;
    private static final int MOST_HEIGHT = 999;

    private static final int NO_SUCH = 1;
    private static final int OUT_OR_NOT = 2;
    private static final int NO_ROOM = 3;
    private static final int MAY_NOT = 4;
    private static final int BEARS_LESS = 5;
    private static final int TOO_HIGH = 6;

    private final Reader reader = new Reader();
    private Told told = new Told();
    private final Standing now = new Standing();
    private final Standing trial = new Standing();
    private final Standing[] marks = new Standing[MOST_MARKS];
    private final Pile pile = new Pile();
    private final Order order = new Order();
    private final Heights heights = new Heights();
    private final Search search = new Search();
    private final Odds odds = new Odds();

    public BowlShelf() {
        for (int i = 0; i < MOST_MARKS; i++) {
            marks[i] = new Standing();
        }
    }

    public int feed(long a, long b, long c) {
        feedBytes(a);
        feedBytes(b);
        feedBytes(c);
        return reader.tape.length;
    }

    private void feedBytes(long bytes) {
        for (int shift = 56; shift >= 0; shift -= 8) {
            reader.tape.add((int) (bytes >>> shift) & 255);
        }
    }

    public int cupboard() {
        int fault = reader.read();
        if (fault != 0) {
            return fault;
        }
        told = reader.exchange(told);
        now.empty();
        for (int i = 0; i < MOST_MARKS; i++) {
            marks[i].laid = false;
        }
        order.chain(told);
        heights.known = false;
        return 0;
    }

    public int ware(int ware, int what) {
        if (!told.isWare(ware)) {
            return NONE;
        }
        switch (what) {
            case 0: return told.wide[ware];
            case 1: return told.deep[ware];
            case 2: return told.weight[ware];
            case 3: return told.bears[ware];
            case 4: return told.breaks[ware];
            case 5: return told.habit[ware];
            case 6: return told.lids >>> ware & 1;
            case 7: return told.tops >>> ware & 1;
            default: return NONE;
        }
    }

    public int shelf(int shelf, int what) {
        if (!told.isShelf(shelf)) {
            return NONE;
        }
        switch (what) {
            case 0: return told.height[shelf];
            case 1: return told.reach[shelf];
            case 2: return told.room[shelf];
            case 3: return now.stacks(shelf);
            default: return NONE;
        }
    }

    public int may(int upper, int lower) {
        if (!told.isWare(upper) || !told.isWare(lower) || upper == lower) {
            return NONE;
        }
        return told.mayOn[lower] >>> upper & 1;
    }

    public int put(int ware, int shelf, int stack) {
        if (!told.isWare(ware) || !told.isShelf(shelf)) {
            return NO_SUCH;
        }
        int stacks = now.stacks(shelf);
        if (stack < NONE || stack >= stacks) {
            return NO_SUCH;
        }
        if (!now.isOut(ware)) {
            return OUT_OR_NOT;
        }
        int place = stack == NONE ? stacks : stack;
        int reason = refusal(now, ware, shelf, place);
        if (reason == 0) {
            now.cost += told.weight[ware] + told.reach[shelf];
            now.add(ware, shelf, place);
        }
        return reason;
    }

    /** Why a WARE that is OUT can't go on a STACK; as many as there are means a new one. */
    private int refusal(Standing standing, int ware, int shelf, int stack) {
        if (stack == standing.stacks(shelf) && stack >= told.room[shelf]) {
            return NO_ROOM;
        }
        pile.take(standing, shelf, stack);
        pile.add(ware);
        return pile.refusal(told, told.height[shelf]);
    }

    public int draw(int ware) {
        if (!told.isWare(ware)) {
            return NO_SUCH;
        }
        if (now.isOut(ware)) {
            return OUT_OR_NOT;
        }
        int shelf = now.shelf[ware];
        pile.take(now, shelf, now.stack[ware]);
        int price = pile.price(told, now.level[ware], told.reach[shelf]);
        pile.remove(now.level[ware]);
        int reason = pile.refusal(told, told.height[shelf]);
        if (reason == 0) {
            now.cost += price;
            now.remove(ware);
        }
        return reason;
    }

    public int carry(int shelf, int stack, int to) {
        if (!isStack(shelf, stack) || !told.isShelf(to) || shelf == to) {
            return NO_SUCH;
        }
        if (now.stacks(to) >= told.room[to]) {
            return NO_ROOM;
        }
        pile.take(now, shelf, stack);
        if (pile.highestRim(told) > told.height[to]) {
            return TOO_HIGH;
        }
        now.cost += 2 * pile.weightFrom(told, 0) + pile.size * (told.reach[shelf] + told.reach[to]);
        now.move(shelf, stack, to);
        return 0;
    }

    private boolean isStack(int shelf, int stack) {
        return told.isShelf(shelf) && stack >= 0 && stack < now.stacks(shelf);
    }

    public int where(int ware, int what) {
        if (!told.isWare(ware) || now.isOut(ware)) {
            return NONE;
        }
        int level = now.level[ware];
        pile.take(now, now.shelf[ware], now.stack[ware]);
        switch (what) {
            case 0: return now.shelf[ware];
            case 1: return now.stack[ware];
            case 2: return level;
            case 3: return pile.size - 1 - level;
            case 4: return pile.foot(told, level);
            default: return NONE;
        }
    }

    public int at(int shelf, int stack, int i) {
        if (!isStack(shelf, stack)) {
            return NONE;
        }
        pile.take(now, shelf, stack);
        return i >= 0 && i < pile.size ? pile.ware[i] : NONE;
    }

    public int stack(int shelf, int stack, int what) {
        if (!isStack(shelf, stack)) {
            return NONE;
        }
        pile.take(now, shelf, stack);
        switch (what) {
            case 0: return pile.size;
            case 1: return pile.highestRim(told);
            case 2: return pile.weightFrom(told, 0);
            default: return NONE;
        }
    }

    public int lift(int ware) {
        return told.isWare(ware) && !now.isOut(ware) ? price(now, ware) : NONE;
    }

    /** What DRAWING a WARE costs that is not OUT. */
    private int price(Standing standing, int ware) {
        int shelf = standing.shelf[ware];
        pile.take(standing, shelf, standing.stack[ware]);
        return pile.price(told, standing.level[ware], told.reach[shelf]);
    }

    public int cost() {
        return now.cost;
    }

    public int through(int upper, int lower) {
        if (!told.isWare(upper) || !told.isWare(lower)) {
            return NONE;
        }
        return order.above[lower] >>> upper & 1;
    }

    public int rows(int what) {
        if (order.isRound()) {
            return NONE;
        }
        order.settle();
        switch (what) {
            case 0: return order.fewest;
            case 1: return order.apart;
            default: return NONE;
        }
    }

    public int rowOf(int ware) {
        if (!told.isWare(ware) || order.isRound()) {
            return NONE;
        }
        order.settle();
        return order.row[ware];
    }

    private static boolean isHeight(int height) {
        return height >= 1 && height <= MOST_HEIGHT;
    }

    public int needed(int height) {
        if (!isHeight(height)) {
            return NONE;
        }
        for (int ware = 0; ware < told.wares; ware++) {
            if (told.deep[ware] > height) {
                return NONE;
            }
        }
        heights.settle(told);
        return heights.fewestStacks(height);
    }

    public int sorted(int set, int height, int i) {
        if (!isHeight(height) || set < 1 || set >= 1 << told.wares || i < 0 || i >= Integer.bitCount(set)) {
            return NONE;
        }
        heights.settle(told);
        return heights.inOrder(told, set, height, i);
    }

    public int goes(int ware, int what) {
        if (!told.isWare(ware) || !now.isOut(ware)) {
            return NONE;
        }
        int place = bestPlace(ware);
        if (place == NONE) {
            return NONE;
        }
        switch (what) {
            case 0: return place >>> 4 & 15;
            case 1: return place & 15;
            case 2: return place >>> 16;
            default: return NONE;
        }
    }

    /**
     * The place as one number, so that the least number is the best place: how many are left without a place,
     * the COST (198 at most), the shelf, the STACK.
     */
    private int bestPlace(int ware) {
        int best = NONE;
        for (int shelf = 0; shelf < told.shelves; shelf++) {
            int price = told.weight[ware] + told.reach[shelf];
            int stacks = now.stacks(shelf);
            for (int stack = 0; stack <= stacks; stack++) {
                if (refusal(now, ware, shelf, stack) == 0) {
                    trial.copy(now);
                    trial.add(ware, shelf, stack);
                    int place = stranded(trial) << 16 | price << 8 | shelf << 4 | stack;
                    best = best == NONE || place < best ? place : best;
                }
            }
        }
        return best;
    }

    /** How many WARES that are OUT can go nowhere. */
    private int stranded(Standing standing) {
        int n = 0;
        for (int ware = 0; ware < told.wares; ware++) {
            if (standing.isOut(ware) && !hasPlace(standing, ware)) {
                n++;
            }
        }
        return n;
    }

    private boolean hasPlace(Standing standing, int ware) {
        for (int shelf = 0; shelf < told.shelves; shelf++) {
            int stacks = standing.stacks(shelf);
            for (int stack = 0; stack <= stacks; stack++) {
                if (refusal(standing, ware, shelf, stack) == 0) {
                    return true;
                }
            }
        }
        return false;
    }

    public int ask(int ware) {
        if (!told.isWare(ware) || now.askings >= MOST_ASKINGS) {
            return NONE;
        }
        now.asking[now.askings] = ware;
        now.askings++;
        return now.askings;
    }

    public boolean clear() {
        now.askings = 0;
        return true;
    }

    public int asked() {
        int sum = 0;
        for (int i = 0; i < now.askings; i++) {
            int ware = now.asking[i];
            if (!now.isOut(ware)) {
                sum += price(now, ware);
            }
        }
        return sum;
    }

    public int best(int shelf, int stack, int what) {
        if (!isStack(shelf, stack)) {
            return NONE;
        }
        pile.take(now, shelf, stack);
        if (what < 0 || what > pile.size || pile.size > Search.MOST) {
            return NONE;
        }
        if (!search.find(told, now, pile, shelf)) {
            return NONE;
        }
        return what == 0 ? search.cost : search.order[what - 1];
    }

    public int onTop() {
        trial.copy(now);
        int sum = 0;
        for (int i = 0; i < trial.askings; i++) {
            int ware = trial.asking[i];
            if (!trial.isOut(ware)) {
                sum += price(trial, ware);
                raise(ware);
            }
        }
        return sum;
    }

    /** On trial, a WARE goes on top of its STACK if that STANDS then. */
    private void raise(int ware) {
        int shelf = trial.shelf[ware];
        int stack = trial.stack[ware];
        pile.take(trial, shelf, stack);
        pile.remove(trial.level[ware]);
        pile.add(ware);
        if (pile.refusal(told, told.height[shelf]) == 0) {
            trial.raise(ware);
        }
    }

    public int habit(int what) {
        int above = 0;
        int below = 0;
        for (int ware = 0; ware < told.wares; ware++) {
            below += told.habit[ware];
            if (!now.isOut(ware)) {
                above += told.habit[ware] * price(now, ware);
            }
        }
        if (below == 0 || what < 0 || what > 1) {
            return NONE;
        }
        int divisor = divisor(above, below);
        if (divisor == 0) {
            return NONE;
        }
        return (what == 0 ? above : below) / divisor;
    }

    /** The greatest common divisor; ints need fewer than fifty rounds. */
    private static int divisor(int a, int b) {
        for (int round = 0; round < 64 && b != 0; round++) {
            int rest = a % b;
            a = b;
            b = rest;
        }
        return a;
    }

    public long whole(int ware, int part) throws NoSuchElementException {
        if (!told.isWare(ware) || part < 0 || part > Odds.PARTS) {
            throw new NoSuchElementException("no such ware or part");
        }
        int lifts = now.lifts(ware);
        if (lifts > Odds.MOST_LIFTS) {
            throw new NoSuchElementException("lifted too often");
        }
        if (part == Odds.PARTS) {
            return lifts;
        }
        odds.power(100 - told.breaks[ware], lifts);
        return odds.digits[part];
    }

    public boolean mark(int mark, boolean back) {
        if (mark < 0 || mark >= MOST_MARKS || back && !marks[mark].laid) {
            return false;
        }
        if (back) {
            now.copy(marks[mark]);
        } else {
            marks[mark].copy(now);
            marks[mark].laid = true;
        }
        return true;
    }

    public int count(int what) {
        switch (what) {
            case 0: return told.wares;
            case 1: return told.shelves;
            case 2: return told.nests;
            case 3: return now.outOf(told.wares);
            case 4: return now.askings;
            case 5: return reader.tape.length;
            default: return NONE;
        }
    }

    /** What a CUPBOARD tells. */
    private static final class Told {
        int wares;
        int shelves;
        int nests;
        final int[] wide = new int[MOST_WARES];
        final int[] deep = new int[MOST_WARES];
        final int[] weight = new int[MOST_WARES];
        final int[] bears = new int[MOST_WARES];
        final int[] breaks = new int[MOST_WARES];
        final int[] habit = new int[MOST_WARES];
        /** Sets of WARES are bits, here and everywhere. */
        int lids;
        int tops;
        /** Of each WARE those that MAY stand on it. */
        final int[] mayOn = new int[MOST_WARES];
        final int[] height = new int[MOST_SHELVES];
        final int[] reach = new int[MOST_SHELVES];
        final int[] room = new int[MOST_SHELVES];

        void empty() {
            wares = 0;
            shelves = 0;
            nests = 0;
            lids = 0;
            tops = 0;
            Arrays.fill(habit, 0);
        }

        boolean isWare(int ware) {
            return ware >= 0 && ware < wares;
        }

        boolean isShelf(int shelf) {
            return shelf >= 0 && shelf < shelves;
        }

        /** How much higher the FOOT of one is than that of the one below it. */
        int rise(int upper, int lower) {
            boolean within = wide[upper] < wide[lower] && (lids >>> lower & 1) == 0;
            return within ? 1 : deep[lower];
        }

        int weightOf(int set) {
            int sum = 0;
            for (int ware = 0; ware < wares; ware++) {
                sum += (set >>> ware & 1) * weight[ware];
            }
            return sum;
        }
    }

    /** How all stands, COSTS, ASKINGS: what a MARK holds. */
    private static final class Standing {
        /** Of each WARE its shelf (NONE: it is OUT), its STACK, how many are below it. */
        final int[] shelf = new int[MOST_WARES];
        final int[] stack = new int[MOST_WARES];
        final int[] level = new int[MOST_WARES];
        final int[] asking = new int[MOST_ASKINGS];
        int askings;
        int cost;
        boolean laid;

        Standing() {
            Arrays.fill(shelf, NONE);
        }

        /** A new CUPBOARD leaves the COSTS: the document names only the WARES, ASKINGS and MARKS there. */
        void empty() {
            Arrays.fill(shelf, NONE);
            askings = 0;
        }

        void copy(Standing from) {
            System.arraycopy(from.shelf, 0, shelf, 0, MOST_WARES);
            System.arraycopy(from.stack, 0, stack, 0, MOST_WARES);
            System.arraycopy(from.level, 0, level, 0, MOST_WARES);
            System.arraycopy(from.asking, 0, asking, 0, MOST_ASKINGS);
            askings = from.askings;
            cost = from.cost;
        }

        boolean isOut(int ware) {
            return shelf[ware] == NONE;
        }

        int outOf(int wares) {
            int n = 0;
            for (int ware = 0; ware < wares; ware++) {
                n += isOut(ware) ? 1 : 0;
            }
            return n;
        }

        int stacks(int ofShelf) {
            int n = 0;
            for (int ware = 0; ware < MOST_WARES; ware++) {
                if (shelf[ware] == ofShelf) {
                    n = Math.max(n, stack[ware] + 1);
                }
            }
            return n;
        }

        boolean stands(int ware, int onShelf, int inStack) {
            return shelf[ware] == onShelf && stack[ware] == inStack;
        }

        int size(int ofShelf, int ofStack) {
            int n = 0;
            for (int ware = 0; ware < MOST_WARES; ware++) {
                n += stands(ware, ofShelf, ofStack) ? 1 : 0;
            }
            return n;
        }

        void add(int ware, int toShelf, int toStack) {
            level[ware] = size(toShelf, toStack);
            shelf[ware] = toShelf;
            stack[ware] = toStack;
        }

        void remove(int ware) {
            int from = shelf[ware];
            sinkAbove(ware);
            shelf[ware] = NONE;
            if (size(from, stack[ware]) == 0) {
                closeGap(from, stack[ware]);
            }
        }

        /** Those above a WARE come one down, as if it were lifted out. */
        private void sinkAbove(int lifted) {
            for (int ware = 0; ware < MOST_WARES; ware++) {
                if (stands(ware, shelf[lifted], stack[lifted]) && level[ware] > level[lifted]) {
                    level[ware]--;
                }
            }
        }

        void raise(int ware) {
            sinkAbove(ware);
            level[ware] = size(shelf[ware], stack[ware]) - 1;
        }

        void move(int fromShelf, int fromStack, int toShelf) {
            int last = stacks(toShelf);
            for (int ware = 0; ware < MOST_WARES; ware++) {
                if (stands(ware, fromShelf, fromStack)) {
                    shelf[ware] = toShelf;
                    stack[ware] = last;
                }
            }
            closeGap(fromShelf, fromStack);
        }

        private void closeGap(int ofShelf, int gone) {
            for (int ware = 0; ware < MOST_WARES; ware++) {
                if (shelf[ware] == ofShelf && stack[ware] > gone) {
                    stack[ware]--;
                }
            }
        }

        /** How often a WARE is lifted for all ASKINGS. */
        int lifts(int ware) {
            int n = 0;
            for (int i = 0; i < askings; i++) {
                int other = asking[i];
                if (!isOut(other) && stands(ware, shelf[other], stack[other])) {
                    n += other == ware ? 1 : level[ware] > level[other] ? 2 : 0;
                }
            }
            return n;
        }

        int timesAsked(int ware) {
            int n = 0;
            for (int i = 0; i < askings; i++) {
                n += asking[i] == ware ? 1 : 0;
            }
            return n;
        }
    }

    /** One STACK laid out from below, to look at it or to try another. */
    private static final class Pile {
        final int[] ware = new int[MOST_WARES];
        int size;

        void take(Standing standing, int shelf, int stack) {
            size = 0;
            for (int w = 0; w < MOST_WARES; w++) {
                if (standing.stands(w, shelf, stack)) {
                    ware[standing.level[w]] = w;
                    size++;
                }
            }
        }

        void add(int w) {
            if (size < MOST_WARES) {
                ware[size] = w;
                size++;
            }
        }

        void remove(int level) {
            for (int i = level; i < size - 1; i++) {
                ware[i] = ware[i + 1];
            }
            size--;
        }

        int weightFrom(Told told, int level) {
            int sum = 0;
            for (int i = level; i < size; i++) {
                sum += told.weight[ware[i]];
            }
            return sum;
        }

        int foot(Told told, int level) {
            int foot = 0;
            for (int i = 1; i <= level && i < size; i++) {
                foot += told.rise(ware[i], ware[i - 1]);
            }
            return foot;
        }

        int highestRim(Told told) {
            int highest = 0;
            int foot = 0;
            for (int i = 0; i < size; i++) {
                foot += i == 0 ? 0 : told.rise(ware[i], ware[i - 1]);
                highest = Math.max(highest, foot + told.deep[ware[i]]);
            }
            return highest;
        }

        /** What DRAWING the one at a level costs. */
        int price(Told told, int level, int reach) {
            int once = told.weight[ware[level]] + reach;
            return once + 2 * (weightFrom(told, level + 1) + reach * (size - 1 - level));
        }

        /** Why it does not STAND: 0 if it does. */
        int refusal(Told told, int height) {
            for (int i = 1; i < size; i++) {
                if ((told.mayOn[ware[i - 1]] >>> ware[i] & 1) == 0) {
                    return MAY_NOT;
                }
            }
            for (int i = 0; i < size; i++) {
                if (weightFrom(told, i + 1) > told.bears[ware[i]]) {
                    return BEARS_LESS;
                }
            }
            return highestRim(told) > height ? TOO_HIGH : 0;
        }
    }

    /** What is THROUGH above what, and the ROWS. */
    private static final class Order {
        int wares;
        /** Of each WARE those THROUGH above it, and those above it or below it. */
        final int[] above = new int[MOST_WARES];
        final int[] kin = new int[MOST_WARES];
        boolean known;
        int fewest;
        int apart;
        final int[] row = new int[MOST_WARES];
        private final int[] members = new int[MOST_WARES];

        void chain(Told told) {
            wares = told.wares;
            known = false;
            System.arraycopy(told.mayOn, 0, above, 0, MOST_WARES);
            for (int middle = 0; middle < wares; middle++) {
                for (int lower = 0; lower < wares; lower++) {
                    if ((above[lower] >>> middle & 1) == 1) {
                        above[lower] |= above[middle];
                    }
                }
            }
        }

        boolean isRound() {
            for (int ware = 0; ware < wares; ware++) {
                if ((above[ware] >>> ware & 1) == 1) {
                    return true;
                }
            }
            return false;
        }

        /** Only when it is asked for, and once for each CUPBOARD: it is dear. */
        void settle() {
            if (known) {
                return;
            }
            known = true;
            findKin();
            findApart();
            Arrays.fill(members, 0);
            give(0, 0);
        }

        private void findKin() {
            System.arraycopy(above, 0, kin, 0, MOST_WARES);
            for (int lower = 0; lower < wares; lower++) {
                for (int upper = 0; upper < wares; upper++) {
                    kin[upper] |= (above[lower] >>> upper & 1) << lower;
                }
            }
        }

        /** As many as the most of which no two are kin, so many rows are the fewest (Dilworth). */
        private void findApart() {
            fewest = 0;
            apart = 0;
            for (int set = 1; set < 1 << wares; set++) {
                int size = Integer.bitCount(set);
                if (size > fewest && isApart(set)) {
                    fewest = size;
                    apart = set;
                }
            }
        }

        private boolean isApart(int set) {
            for (int ware = 0; ware < wares; ware++) {
                if ((set >>> ware & 1) == 1 && (kin[ware] & set) != 0) {
                    return false;
                }
            }
            return true;
        }

        /** Gives rows to a WARE and those behind it, the first way that needs no more than the fewest. */
        private boolean give(int ware, int used) {
            if (ware >= wares) {
                return true;
            }
            for (int r = 0; r <= used && r < fewest; r++) {
                if ((members[r] & ~kin[ware]) == 0) {
                    members[r] |= 1 << ware;
                    row[ware] = r;
                    if (give(ware + 1, Math.max(used, r + 1))) {
                        return true;
                    }
                    members[r] ^= 1 << ware;
                }
            }
            return false;
        }
    }

    /** How low each set of WARES can STAND: no height is asked for in it, so one table serves all heights. */
    private static final class Heights {
        private static final int NEVER = 1000000;

        boolean known;
        private int wares;
        /** By set and its lowest WARE, and by set alone: the least highest RIM. */
        private int[] leastRim = new int[0];
        private int[] least = new int[0];
        private int[] stacks = new int[0];

        void settle(Told told) {
            if (known) {
                return;
            }
            known = true;
            wares = told.wares;
            int sets = 1 << wares;
            if (least.length < sets) {
                least = new int[sets];
                stacks = new int[sets];
                leastRim = new int[sets * wares];
            }
            for (int set = 1; set < sets; set++) {
                settleSet(told, set);
            }
        }

        private void settleSet(Told told, int set) {
            int weight = told.weightOf(set);
            int lowest = NEVER;
            for (int bottom = 0; bottom < wares; bottom++) {
                if ((set >>> bottom & 1) == 1) {
                    boolean bears = weight - told.weight[bottom] <= told.bears[bottom];
                    int rim = bears ? rimOver(told, bottom, set ^ 1 << bottom) : NEVER;
                    leastRim[set * wares + bottom] = rim;
                    lowest = Math.min(lowest, rim);
                }
            }
            least[set] = lowest;
        }

        /** The least highest RIM of a WARE and the others above it. */
        private int rimOver(Told told, int bottom, int others) {
            int deep = told.deep[bottom];
            if (others == 0) {
                return deep;
            }
            int next = others & told.mayOn[bottom];
            int rim = NEVER;
            for (int upper = 0; upper < wares; upper++) {
                if ((next >>> upper & 1) == 1) {
                    rim = Math.min(rim, told.rise(upper, bottom) + leastRim[others * wares + upper]);
                }
            }
            return Math.max(deep, rim);
        }

        /** Each WARE alone must STAND there. */
        int fewestStacks(int height) {
            int all = (1 << wares) - 1;
            stacks[0] = 0;
            for (int set = 1; set <= all; set++) {
                // The STACK of WARE 0 is parted off first, so no other set with it is ever left.
                if ((set & 1) == 0 || set == all) {
                    stacks[set] = fewestOf(set, height);
                }
            }
            return stacks[all];
        }

        /** One STACK holds the set's first WARE: only what stands with it is tried. */
        private int fewestOf(int set, int height) {
            int first = Integer.lowestOneBit(set);
            int others = set ^ first;
            int fewest = MOST_WARES;
            int left = others;
            for (int n = 1 << Integer.bitCount(others); n > 0; n--) {
                if (stacks[left] + 1 < fewest && least[set ^ left] <= height) {
                    fewest = stacks[left] + 1;
                }
                left = left - 1 & others;
            }
            return fewest;
        }

        /** The i-th from below of the first order in which a set STANDS. */
        int inOrder(Told told, int set, int height, int i) {
            int left = set;
            int room = height;
            int below = NONE;
            for (int n = 0; n <= i; n++) {
                int ware = firstOn(told, left, below, room);
                if (ware == NONE) {
                    return NONE;
                }
                room -= below == NONE ? 0 : told.rise(ware, below);
                left ^= 1 << ware;
                below = ware;
            }
            return below;
        }

        private int firstOn(Told told, int left, int below, int room) {
            int next = below == NONE ? left : left & told.mayOn[below];
            for (int ware = 0; ware < wares; ware++) {
                if ((next >>> ware & 1) == 1) {
                    int rise = below == NONE ? 0 : told.rise(ware, below);
                    int rim = leastRim[left * wares + ware];
                    if (rim < NEVER && rise + rim <= room) {
                        return ware;
                    }
                }
            }
            return NONE;
        }
    }

    /** The BEST order of a STACK. */
    private static final class Search {
        static final int MOST = 7;

        final int[] order = new int[MOST];
        int cost;
        private boolean found;
        private int size;
        private int height;
        private int reach;
        private final int[] trial = new int[MOST];
        private final int[] times = new int[MOST_WARES];

        boolean find(Told told, Standing standing, Pile pile, int shelf) {
            size = Math.min(pile.size, MOST);
            height = told.height[shelf];
            reach = told.reach[shelf];
            found = false;
            int set = 0;
            for (int i = 0; i < size; i++) {
                int ware = pile.ware[i];
                set |= 1 << ware;
                times[ware] = standing.timesAsked(ware);
            }
            extend(told, 0, set, 0, 0);
            return found;
        }

        /** Tries each WARE that is left on top of the order so far; foot is the FOOT of the one below. */
        private void extend(Told told, int level, int left, int foot, int spent) {
            if (level >= size) {
                return;
            }
            int next = level == 0 ? left : left & told.mayOn[trial[level - 1]];
            for (int ware = 0; ware < told.wares; ware++) {
                if ((next >>> ware & 1) == 1) {
                    int rise = level == 0 ? 0 : told.rise(ware, trial[level - 1]);
                    tryOn(told, ware, level, left ^ 1 << ware, foot + rise, spent);
                }
            }
        }

        private void tryOn(Told told, int ware, int level, int above, int foot, int spent) {
            int weight = told.weightOf(above);
            if (weight > told.bears[ware] || foot + told.deep[ware] > height) {
                return;
            }
            int once = told.weight[ware] + reach + 2 * (weight + reach * (size - 1 - level));
            int sum = spent + times[ware] * once;
            // Orders come first to last, so that of equal ones the first must stay.
            if (found && sum >= cost) {
                return;
            }
            trial[level] = ware;
            if (above == 0) {
                found = true;
                cost = sum;
                System.arraycopy(trial, 0, order, 0, size);
            } else {
                extend(told, level + 1, above, foot, sum);
            }
        }
    }

    /** A power in parts of nine digits, the last part first. */
    private static final class Odds {
        static final int PARTS = 4;
        static final int MOST_LIFTS = 17;
        private static final long PART = 1000000000L;

        final long[] digits = new long[PARTS];

        void power(int base, int times) {
            Arrays.fill(digits, 0L);
            digits[0] = 1;
            for (int n = 0; n < times; n++) {
                long over = 0;
                for (int i = 0; i < PARTS; i++) {
                    long product = digits[i] * base + over;
                    digits[i] = product % PART;
                    over = product / PART;
                }
            }
        }
    }

    /** The nests' Es, each as a row of steps in which what is worked on comes ahead of what is done with it. */
    private static final class Nests {
        static final int INNER = -1;
        static final int OUTER = -2;
        static final int LOW = -3;
        static final int DEEP = -4;
        static final int LIGHT = -5;
        static final int HEAVY = -6;
        static final int LID = -7;
        static final int UNDER = -8;
        static final int NOT = -9;
        static final int AND = -10;
        static final int OR = -11;
        static final int LESS = -12;
        static final int SAME = -13;
        static final int PLUS = -14;
        static final int MINUS = -15;
        static final int TIMES = -16;

        /** Four may wait in each of six levels of ( ). */
        private static final int MOST_VALUES = 32;

        private int size;
        private int nests;
        private final int[] steps = new int[MOST_SIGNS];
        private final int[] end = new int[MOST_NESTS];
        private final int[] values = new int[MOST_VALUES];

        void empty() {
            size = 0;
            nests = 0;
        }

        /** A step of 0 and more is a NUMBER. */
        void add(int step) {
            if (size < MOST_SIGNS) {
                steps[size] = step;
                size++;
            }
        }

        void close() {
            if (nests < MOST_NESTS) {
                end[nests] = size;
                nests++;
            }
        }

        boolean allow(Told told, int upper, int lower) {
            if ((told.tops >>> lower & 1) == 1) {
                return false;
            }
            if (nests == 0) {
                return told.wide[upper] < told.wide[lower];
            }
            for (int nest = 0; nest < nests; nest++) {
                int start = nest == 0 ? 0 : end[nest - 1];
                if (value(told, upper, lower, start, end[nest]) == 0) {
                    return false;
                }
            }
            return true;
        }

        private int value(Told told, int upper, int lower, int start, int stop) {
            int n = 0;
            for (int i = start; i < stop; i++) {
                int step = steps[i];
                if (step >= UNDER && n < MOST_VALUES) {
                    values[n] = step >= 0 ? step : fact(told, upper, lower, step);
                    n++;
                } else if (step == NOT && n >= 1) {
                    values[n - 1] = values[n - 1] == 0 ? 1 : 0;
                } else if (step < NOT && n >= 2) {
                    n--;
                    values[n - 1] = join(values[n - 1], values[n], step);
                }
            }
            return values[0];
        }

        private static int fact(Told told, int upper, int lower, int step) {
            switch (step) {
                case INNER: return told.wide[upper];
                case OUTER: return told.wide[lower];
                case LOW: return told.deep[upper];
                case DEEP: return told.deep[lower];
                case LIGHT: return told.weight[upper];
                case HEAVY: return told.weight[lower];
                case LID: return told.lids >>> upper & 1;
                default: return told.lids >>> lower & 1;
            }
        }

        private static int join(int a, int b, int step) {
            switch (step) {
                case AND: return a != 0 && b != 0 ? 1 : 0;
                case OR: return a != 0 || b != 0 ? 1 : 0;
                case LESS: return a < b ? 1 : 0;
                case SAME: return a == b ? 1 : 0;
                case PLUS: return a + b;
                case MINUS: return a - b;
                default: return a * b;
            }
        }
    }

    /** The TAPE, and its TOKENS one after the other. */
    private static final class Tape {
        static final int END = 0;
        static final int WORD = 1;
        static final int NUMBER = 2;
        static final int SIGN = 3;
        static final int NO_TOKEN = 4;

        private static final int LONGEST_WORD = 8;
        private static final int LONGEST_NUMBER = 4;

        private final char[] text = new char[MOST_SIGNS];
        int length;
        private int next;
        /** Of the token at hand. */
        int kind;
        int place;
        int number;

        void add(int sign) {
            boolean fits = sign == 10 || sign >= 32 && sign <= 126;
            if (fits && length < MOST_SIGNS) {
                text[length] = (char) sign;
                length++;
            }
        }

        /** The first token is at hand then. */
        void start() {
            next = 0;
            advance();
        }

        void advance() {
            place = pastBlanks(next);
            int pastWord = pastRun(place, 'a', 'z');
            int pastNumber = pastRun(place, '0', '9');
            if (place >= length) {
                next = place;
                kind = END;
            } else if (pastWord > place) {
                next = pastWord;
                kind = next - place <= LONGEST_WORD ? WORD : NO_TOKEN;
            } else if (pastNumber > place) {
                next = pastNumber;
                kind = next - place <= LONGEST_NUMBER ? NUMBER : NO_TOKEN;
                number = kind == NUMBER ? valueOf(place, next) : 0;
            } else {
                next = place + 1;
                kind = "()<=+-*;".indexOf(text[place]) >= 0 ? SIGN : NO_TOKEN;
            }
        }

        private int pastBlanks(int from) {
            int i = from;
            while (i < length && (text[i] == 10 || text[i] == 32)) {
                i++;
            }
            return i;
        }

        /** Past all signs from least to most. */
        private int pastRun(int from, char least, char most) {
            int i = from;
            while (i < length && text[i] >= least && text[i] <= most) {
                i++;
            }
            return i;
        }

        private int valueOf(int from, int to) {
            int value = 0;
            for (int i = from; i < to; i++) {
                value = value * 10 + text[i] - '0';
            }
            return value;
        }

        boolean isSign(char sign) {
            return kind == SIGN && text[place] == sign;
        }

        boolean isWord(String word) {
            if (kind != WORD || next - place != word.length()) {
                return false;
            }
            for (int i = 0; i < word.length(); i++) {
                if (text[place + i] != word.charAt(i)) {
                    return false;
                }
            }
            return true;
        }

        /** The WORD as a number of its own, so that NAMES are kept without texts. */
        long code() {
            long code = 0;
            for (int i = place; i < next; i++) {
                code = code * 32 + text[i] - 'a' + 1;
            }
            return code;
        }

        boolean isName() {
            boolean opensStatement = isWord("bowl") || isWord("lid") || isWord("shelf")
                || isWord("top") || isWord("habit") || isWord("nest");
            boolean namesAmount = isWord("wide") || isWord("deep") || isWord("weight") || isWord("bears")
                || isWord("breaks") || isWord("height") || isWord("reach") || isWord("room");
            boolean joins = isWord("not") || isWord("and") || isWord("or");
            return kind == WORD && !opensStatement && !namesAmount && !joins;
        }
    }

    /** Reads a CUPBOARD. Each method that answers false has met a FAULT at the token at hand. */
    private static final class Reader {
        private static final int CANT_STAND = 1;
        private static final int UNTOLD = 2;
        private static final int TOLD_ALREADY = 3;
        private static final int WRONG_NUMBER = 4;
        private static final int TOO_MANY = 5;
        private static final int DEEPEST = 5;
        private static final int TEST_RANK = 1;
        private static final int PART_RANK = 4;
        private static final int NO_STEP = -100;

        final Tape tape = new Tape();
        private final Nests nests = new Nests();
        private final long[] wareName = new long[MOST_WARES];
        private final long[] shelfName = new long[MOST_SHELVES];
        /** What is read goes here, so that all stays as it is if there is a FAULT. */
        private Told told = new Told();
        /** Those whose habit is told. */
        private int habits;
        private int fault;

        /** Takes the TAPE and answers the FAULT, or 0. */
        int read() {
            told.empty();
            nests.empty();
            habits = 0;
            fault = 0;
            tape.start();
            boolean right = true;
            for (int n = 0; n < MOST_SIGNS && right && tape.kind != Tape.END; n++) {
                right = readStatement();
            }
            tape.length = 0;
            if (right) {
                findMay();
            }
            return fault;
        }

        /** Hands out what was read, and takes what is no longer used to read into. */
        Told exchange(Told former) {
            Told fresh = told;
            told = former;
            return fresh;
        }

        private void findMay() {
            Arrays.fill(told.mayOn, 0);
            for (int lower = 0; lower < told.wares; lower++) {
                for (int upper = 0; upper < told.wares; upper++) {
                    if (upper != lower && nests.allow(told, upper, lower)) {
                        told.mayOn[lower] |= 1 << upper;
                    }
                }
            }
        }

        private boolean wrong(int kind) {
            fault = kind + 16 * tape.place;
            return false;
        }

        private boolean readStatement() {
            if (tape.isWord("bowl")) {
                return readBowl();
            }
            if (tape.isWord("lid")) {
                return readLid();
            }
            if (tape.isWord("shelf")) {
                return readShelf();
            }
            if (tape.isWord("top")) {
                return readTop();
            }
            if (tape.isWord("habit")) {
                return readHabit();
            }
            return tape.isWord("nest") ? readNest() : wrong(CANT_STAND);
        }

        private boolean readBowl() {
            int ware = told.wares;
            if (ware >= MOST_WARES) {
                return wrong(TOO_MANY);
            }
            boolean right = readNewName(wareName, ware)
                && readAmount("wide", 1, 99, told.wide, ware)
                && readAmount("deep", 1, 99, told.deep, ware)
                && readAmount("weight", 1, 99, told.weight, ware)
                && readAmount("bears", 0, 999, told.bears, ware)
                && readAmount("breaks", 0, 99, told.breaks, ware)
                && readSign(';');
            told.wares += right ? 1 : 0;
            return right;
        }

        private boolean readLid() {
            int ware = told.wares;
            if (ware >= MOST_WARES) {
                return wrong(TOO_MANY);
            }
            boolean right = readNewName(wareName, ware)
                && readAmount("wide", 1, 99, told.wide, ware)
                && readAmount("weight", 1, 99, told.weight, ware)
                && readAmount("breaks", 0, 99, told.breaks, ware)
                && readSign(';');
            told.deep[ware] = 1;
            told.bears[ware] = 0;
            told.lids |= 1 << ware;
            told.wares += right ? 1 : 0;
            return right;
        }

        private boolean readShelf() {
            int shelf = told.shelves;
            if (shelf >= MOST_SHELVES) {
                return wrong(TOO_MANY);
            }
            boolean right = readNewName(shelfName, shelf)
                && readAmount("height", 1, MOST_HEIGHT, told.height, shelf)
                && readAmount("reach", 0, 99, told.reach, shelf)
                && readAmount("room", 1, 8, told.room, shelf)
                && readSign(';');
            told.shelves += right ? 1 : 0;
            return right;
        }

        private boolean readTop() {
            int ware = readWare(told.tops);
            if (ware == NONE) {
                return false;
            }
            told.tops |= 1 << ware;
            return readSign(';');
        }

        private boolean readHabit() {
            int ware = readWare(habits);
            if (ware == NONE) {
                return false;
            }
            habits |= 1 << ware;
            return readNumber(0, 99, told.habit, ware) && readSign(';');
        }

        private boolean readNest() {
            if (told.nests >= MOST_NESTS) {
                return wrong(TOO_MANY);
            }
            tape.advance();
            if (!readChain(0, 0) || !readSign(';')) {
                return false;
            }
            nests.close();
            told.nests++;
            return true;
        }

        /** Behind the word at hand, a NAME that is not told yet is kept. */
        private boolean readNewName(long[] names, int index) {
            tape.advance();
            if (!tape.isName()) {
                return wrong(CANT_STAND);
            }
            long code = tape.code();
            if (indexOf(wareName, told.wares, code) != NONE || indexOf(shelfName, told.shelves, code) != NONE) {
                return wrong(TOLD_ALREADY);
            }
            names[index] = code;
            tape.advance();
            return true;
        }

        private static int indexOf(long[] names, int n, long code) {
            for (int i = 0; i < n; i++) {
                if (names[i] == code) {
                    return i;
                }
            }
            return NONE;
        }

        /** Behind the word at hand, a WARE that is not among those of which it is told already; NONE: a FAULT. */
        private int readWare(int already) {
            tape.advance();
            int ware = tape.isName() ? indexOf(wareName, told.wares, tape.code()) : NONE;
            if (!tape.isName()) {
                wrong(CANT_STAND);
            } else if (ware == NONE) {
                wrong(UNTOLD);
            } else if ((already >>> ware & 1) == 1) {
                wrong(TOLD_ALREADY);
                ware = NONE;
            } else {
                tape.advance();
            }
            return ware;
        }

        private boolean readAmount(String word, int least, int most, int[] into, int index) {
            if (!tape.isWord(word)) {
                return wrong(CANT_STAND);
            }
            tape.advance();
            return readNumber(least, most, into, index);
        }

        private boolean readNumber(int least, int most, int[] into, int index) {
            if (tape.kind != Tape.NUMBER) {
                return wrong(CANT_STAND);
            }
            if (tape.number < least || tape.number > most) {
                return wrong(WRONG_NUMBER);
            }
            into[index] = tape.number;
            tape.advance();
            return true;
        }

        private boolean readSign(char sign) {
            if (!tape.isSign(sign)) {
                return wrong(CANT_STAND);
            }
            tape.advance();
            return true;
        }

        /**
         * From rank 0, which is E, to rank 3, which is PRODUCT, each is a chain of the next rank's; depth is in
         * how many of not and ( ) it lies: readPart() refuses what would go too deep.
         */
        private boolean readChain(int rank, int depth) {
            if (rank >= PART_RANK) {
                return readPart(depth);
            }
            boolean right = readChain(rank + 1, depth);
            int most = rank == TEST_RANK ? 1 : MOST_SIGNS;
            for (int n = 0; n < most && right; n++) {
                int step = joint(rank);
                if (step == NO_STEP) {
                    return true;
                }
                tape.advance();
                right = readChain(rank + 1, depth);
                nests.add(step);
            }
            return right;
        }

        /** What the token at hand joins in a chain of a rank. */
        private int joint(int rank) {
            switch (rank) {
                case 0: return tape.isWord("and") ? Nests.AND : tape.isWord("or") ? Nests.OR : NO_STEP;
                case TEST_RANK: return tape.isSign('<') ? Nests.LESS : tape.isSign('=') ? Nests.SAME : NO_STEP;
                case 2: return tape.isSign('+') ? Nests.PLUS : tape.isSign('-') ? Nests.MINUS : NO_STEP;
                default: return tape.isSign('*') ? Nests.TIMES : NO_STEP;
            }
        }

        private boolean readPart(int depth) {
            boolean not = tape.isWord("not");
            boolean open = tape.isSign('(');
            int step = tape.kind == Tape.NUMBER ? tape.number : fact();
            if (!not && !open && step == NO_STEP) {
                return wrong(CANT_STAND);
            }
            if (depth >= DEEPEST) {
                return wrong(TOO_MANY);
            }
            tape.advance();
            if (open) {
                return readChain(0, depth + 1) && readSign(')');
            }
            boolean right = !not || readPart(depth + 1);
            nests.add(not ? Nests.NOT : step);
            return right;
        }

        private int fact() {
            if (tape.isWord("inner")) {
                return Nests.INNER;
            }
            if (tape.isWord("outer")) {
                return Nests.OUTER;
            }
            if (tape.isWord("low")) {
                return Nests.LOW;
            }
            if (tape.isWord("deep")) {
                return Nests.DEEP;
            }
            if (tape.isWord("light")) {
                return Nests.LIGHT;
            }
            if (tape.isWord("heavy")) {
                return Nests.HEAVY;
            }
            if (tape.isWord("lid")) {
                return Nests.LID;
            }
            return tape.isWord("under") ? Nests.UNDER : NO_STEP;
        }
    }
}
