import java.math.BigInteger;
import java.util.ArrayList;
import java.util.Collections;
import java.util.List;
import java.util.NoSuchElementException;
import java.util.regex.Matcher;
import java.util.regex.Pattern;

/**
 * The document once more, written apart from BowlShelf with lists, texts and plain trying of all there is, so that
 * random runs can be held against it. It is slow: few WARES only where all orders or partings are tried.
 */
final class PlainShelf {
    interface Law {
        int of(int upper, int lower);
    }

    static final class Ware {
        String name;
        int wide;
        int deep;
        int weight;
        int bears;
        int breaks;
        int habit;
        boolean habitTold;
        boolean lid;
        boolean top;
    }

    static final class Board {
        String name;
        int height;
        int reach;
        int room;
    }

    static final class Fault extends RuntimeException {
        private static final long serialVersionUID = 1L;
        final int code;

        Fault(int kind, int place) {
            code = kind + 16 * place;
        }
    }

    static final class State {
        List<List<List<Integer>>> shelves = new ArrayList<>();
        List<Integer> askings = new ArrayList<>();
        int cost;

        State copy() {
            State s = new State();
            for (List<List<Integer>> stacks : shelves) {
                List<List<Integer>> mine = new ArrayList<>();
                for (List<Integer> stack : stacks) {
                    mine.add(new ArrayList<>(stack));
                }
                s.shelves.add(mine);
            }
            s.askings.addAll(askings);
            s.cost = cost;
            return s;
        }

        int[] find(int ware) {
            for (int s = 0; s < shelves.size(); s++) {
                for (int t = 0; t < shelves.get(s).size(); t++) {
                    int i = shelves.get(s).get(t).indexOf(ware);
                    if (i >= 0) {
                        return new int[] {s, t, i};
                    }
                }
            }
            return null;
        }
    }

    private static final Pattern TOKEN = Pattern.compile("[a-z]+|[0-9]+|[^ \n]");
    private static final List<String> RESERVED = List.of("bowl", "lid", "shelf", "top", "habit", "nest", "wide", "deep",
        "weight", "bears", "breaks", "height", "reach", "room", "not", "and", "or");
    private static final List<String> FACTS =
        List.of("inner", "outer", "low", "deep", "light", "heavy", "lid", "under");

    private final StringBuilder tape = new StringBuilder();
    List<Ware> wares = new ArrayList<>();
    List<Board> boards = new ArrayList<>();
    private List<Law> laws = new ArrayList<>();
    State state = new State();
    private final State[] marks = new State[4];

    // the language

    private List<String> words;
    private List<Integer> places;
    private int at;
    private List<Ware> newWares;
    private List<Board> newBoards;
    private List<Law> newLaws;

    int feed(long a, long b, long c) {
        for (long v : new long[] {a, b, c}) {
            for (byte x : BigInteger.valueOf(v).and(BigInteger.ONE.shiftLeft(64).subtract(BigInteger.ONE))
                .add(BigInteger.ONE.shiftLeft(71)).toByteArray()) {
                if ((x == 10 || x >= 32 && x != 127) && tape.length() < 1000) {
                    tape.append((char) x);
                }
            }
        }
        return tape.length();
    }

    int cupboard() {
        String text = tape.toString();
        tape.setLength(0);
        words = new ArrayList<>();
        places = new ArrayList<>();
        Matcher m = TOKEN.matcher(text);
        while (m.find()) {
            words.add(m.group());
            places.add(m.start());
        }
        words.add("");
        places.add(text.length());
        at = 0;
        newWares = new ArrayList<>();
        newBoards = new ArrayList<>();
        newLaws = new ArrayList<>();
        try {
            while (!words.get(at).isEmpty()) {
                statement();
            }
        } catch (Fault f) {
            return f.code;
        }
        wares = newWares;
        boards = newBoards;
        laws = newLaws;
        int cost = state.cost;
        state = new State();
        state.cost = cost;
        for (int i = 0; i < boards.size(); i++) {
            state.shelves.add(new ArrayList<>());
        }
        for (int i = 0; i < 4; i++) {
            marks[i] = null;
        }
        return 0;
    }

    private Fault wrong(int kind) {
        return new Fault(kind, places.get(at));
    }

    private void statement() {
        String w = words.get(at);
        switch (w) {
            case "bowl":
            case "lid":
                if (newWares.size() == 12) {
                    throw wrong(5);
                }
                at++;
                Ware ware = new Ware();
                ware.name = freshName();
                ware.lid = w.equals("lid");
                ware.wide = amount("wide", 1, 99);
                ware.deep = ware.lid ? 1 : amount("deep", 1, 99);
                ware.weight = amount("weight", 1, 99);
                ware.bears = ware.lid ? 0 : amount("bears", 0, 999);
                ware.breaks = amount("breaks", 0, 99);
                newWares.add(ware);
                break;
            case "shelf":
                if (newBoards.size() == 4) {
                    throw wrong(5);
                }
                at++;
                Board board = new Board();
                board.name = freshName();
                board.height = amount("height", 1, 999);
                board.reach = amount("reach", 0, 99);
                board.room = amount("room", 1, 8);
                newBoards.add(board);
                break;
            case "top":
                at++;
                Ware crown = oldWare();
                if (crown.top) {
                    throw wrong(3);
                }
                crown.top = true;
                at++;
                break;
            case "habit":
                at++;
                Ware used = oldWare();
                if (used.habitTold) {
                    throw wrong(3);
                }
                used.habitTold = true;
                at++;
                used.habit = number(0, 99);
                break;
            case "nest":
                if (newLaws.size() == 4) {
                    throw wrong(5);
                }
                at++;
                newLaws.add(either(0));
                break;
            default:
                throw wrong(1);
        }
        sign(";");
    }

    private void sign(String s) {
        if (!words.get(at).equals(s)) {
            throw wrong(1);
        }
        at++;
    }

    private boolean isName() {
        return words.get(at).matches("[a-z]{1,8}") && !RESERVED.contains(words.get(at));
    }

    private String freshName() {
        if (!isName()) {
            throw wrong(1);
        }
        String name = words.get(at);
        if (newWares.stream().anyMatch(w -> w.name.equals(name))
            || newBoards.stream().anyMatch(b -> b.name.equals(name))) {
            throw wrong(3);
        }
        at++;
        return name;
    }

    private Ware oldWare() {
        if (!isName()) {
            throw wrong(1);
        }
        for (Ware w : newWares) {
            if (w.name.equals(words.get(at))) {
                return w;
            }
        }
        throw wrong(2);
    }

    private int amount(String word, int low, int high) {
        sign(word);
        return number(low, high);
    }

    private int number(int low, int high) {
        if (!words.get(at).matches("[0-9]{1,4}")) {
            throw wrong(1);
        }
        int n = Integer.parseInt(words.get(at));
        if (n < low || n > high) {
            throw wrong(4);
        }
        at++;
        return n;
    }

    private Law either(int in) {
        Law left = test(in);
        while (words.get(at).equals("and") || words.get(at).equals("or")) {
            boolean and = words.get(at).equals("and");
            at++;
            Law a = left;
            Law b = test(in);
            left = and ? (u, l) -> a.of(u, l) != 0 && b.of(u, l) != 0 ? 1 : 0
                : (u, l) -> a.of(u, l) != 0 || b.of(u, l) != 0 ? 1 : 0;
        }
        return left;
    }

    private Law test(int in) {
        Law a = sum(in);
        if (words.get(at).equals("<")) {
            at++;
            Law b = sum(in);
            return (u, l) -> a.of(u, l) < b.of(u, l) ? 1 : 0;
        }
        if (words.get(at).equals("=")) {
            at++;
            Law b = sum(in);
            return (u, l) -> a.of(u, l) == b.of(u, l) ? 1 : 0;
        }
        return a;
    }

    private Law sum(int in) {
        Law left = product(in);
        while (words.get(at).equals("+") || words.get(at).equals("-")) {
            int factor = words.get(at).equals("+") ? 1 : -1;
            at++;
            Law a = left;
            Law b = product(in);
            left = (u, l) -> a.of(u, l) + factor * b.of(u, l);
        }
        return left;
    }

    private Law product(int in) {
        Law left = part(in);
        while (words.get(at).equals("*")) {
            at++;
            Law a = left;
            Law b = part(in);
            left = (u, l) -> a.of(u, l) * b.of(u, l);
        }
        return left;
    }

    private Law part(int in) {
        String w = words.get(at);
        boolean number = w.matches("[0-9]{1,4}");
        if (!number && !FACTS.contains(w) && !w.equals("not") && !w.equals("(")) {
            throw wrong(1);
        }
        if (in == 5) {
            throw wrong(5);
        }
        at++;
        if (number) {
            int n = Integer.parseInt(w);
            return (u, l) -> n;
        }
        if (w.equals("not")) {
            Law a = part(in + 1);
            return (u, l) -> a.of(u, l) == 0 ? 1 : 0;
        }
        if (w.equals("(")) {
            Law a = either(in + 1);
            sign(")");
            return a;
        }
        return (u, l) -> fact(w, wares.get(u), wares.get(l));
    }

    private static int fact(String w, Ware upper, Ware lower) {
        switch (w) {
            case "inner": return upper.wide;
            case "outer": return lower.wide;
            case "low": return upper.deep;
            case "deep": return lower.deep;
            case "light": return upper.weight;
            case "heavy": return lower.weight;
            case "lid": return upper.lid ? 1 : 0;
            default: return lower.lid ? 1 : 0;
        }
    }

    // the law and how a STACK stands

    private boolean isWare(int w) {
        return w >= 0 && w < wares.size();
    }

    private boolean isBoard(int s) {
        return s >= 0 && s < boards.size();
    }

    private boolean isStack(int s, int t) {
        return isBoard(s) && t >= 0 && t < state.shelves.get(s).size();
    }

    private boolean mayOn(int upper, int lower) {
        if (wares.get(lower).top) {
            return false;
        }
        if (laws.isEmpty()) {
            return wares.get(upper).wide < wares.get(lower).wide;
        }
        return laws.stream().allMatch(law -> law.of(upper, lower) != 0);
    }

    private List<Integer> feet(List<Integer> stack) {
        List<Integer> feet = new ArrayList<>();
        for (int i = 0; i < stack.size(); i++) {
            if (i == 0) {
                feet.add(0);
                continue;
            }
            Ware me = wares.get(stack.get(i));
            Ware below = wares.get(stack.get(i - 1));
            int foot = feet.get(i - 1);
            feet.add(me.wide < below.wide && !below.lid ? foot + 1 : foot + below.deep);
        }
        return feet;
    }

    private int rim(List<Integer> stack) {
        List<Integer> feet = feet(stack);
        int rim = 0;
        for (int i = 0; i < stack.size(); i++) {
            rim = Math.max(rim, feet.get(i) + wares.get(stack.get(i)).deep);
        }
        return rim;
    }

    private int weigh(List<Integer> stack) {
        return stack.stream().mapToInt(w -> wares.get(w).weight).sum();
    }

    private int why(List<Integer> stack, int height) {
        for (int i = 1; i < stack.size(); i++) {
            if (!mayOn(stack.get(i), stack.get(i - 1))) {
                return 4;
            }
        }
        for (int i = 0; i < stack.size(); i++) {
            if (weigh(stack.subList(i + 1, stack.size())) > wares.get(stack.get(i)).bears) {
                return 5;
            }
        }
        return rim(stack) > height ? 6 : 0;
    }

    // the calls

    int ware(int w, int what) {
        if (!isWare(w) || what < 0 || what > 7) {
            return -1;
        }
        Ware x = wares.get(w);
        return new int[] {x.wide, x.deep, x.weight, x.bears, x.breaks, x.habit, x.lid ? 1 : 0, x.top ? 1 : 0}[what];
    }

    int shelf(int s, int what) {
        if (!isBoard(s) || what < 0 || what > 3) {
            return -1;
        }
        Board b = boards.get(s);
        return new int[] {b.height, b.reach, b.room, state.shelves.get(s).size()}[what];
    }

    int may(int u, int l) {
        return !isWare(u) || !isWare(l) || u == l ? -1 : mayOn(u, l) ? 1 : 0;
    }

    int put(int w, int s, int t) {
        if (!isWare(w) || !isBoard(s) || t != -1 && !isStack(s, t)) {
            return 1;
        }
        if (state.find(w) != null) {
            return 2;
        }
        int why = tryPut(state, w, s, t == -1 ? state.shelves.get(s).size() : t);
        if (why == 0) {
            doPut(state, w, s, t == -1 ? state.shelves.get(s).size() : t);
            state.cost += wares.get(w).weight + boards.get(s).reach;
        }
        return why;
    }

    private int tryPut(State st, int w, int s, int t) {
        List<List<Integer>> stacks = st.shelves.get(s);
        if (t == stacks.size() && stacks.size() >= boards.get(s).room) {
            return 3;
        }
        List<Integer> next = t == stacks.size() ? new ArrayList<>() : new ArrayList<>(stacks.get(t));
        next.add(w);
        return why(next, boards.get(s).height);
    }

    private static void doPut(State st, int w, int s, int t) {
        if (t == st.shelves.get(s).size()) {
            st.shelves.get(s).add(new ArrayList<>());
        }
        st.shelves.get(s).get(t).add(w);
    }

    int draw(int w) {
        if (!isWare(w)) {
            return 1;
        }
        int[] p = state.find(w);
        if (p == null) {
            return 2;
        }
        int price = lift(w);
        List<Integer> rest = new ArrayList<>(state.shelves.get(p[0]).get(p[1]));
        rest.remove(p[2]);
        int why = why(rest, boards.get(p[0]).height);
        if (why == 0) {
            state.cost += price;
            if (rest.isEmpty()) {
                state.shelves.get(p[0]).remove(p[1]);
            } else {
                state.shelves.get(p[0]).set(p[1], rest);
            }
        }
        return why;
    }

    int carry(int s, int t, int to) {
        if (!isStack(s, t) || !isBoard(to) || s == to) {
            return 1;
        }
        if (state.shelves.get(to).size() >= boards.get(to).room) {
            return 3;
        }
        List<Integer> stack = state.shelves.get(s).get(t);
        if (rim(stack) > boards.get(to).height) {
            return 6;
        }
        for (int w : stack) {
            state.cost += wares.get(w).weight + boards.get(s).reach + wares.get(w).weight + boards.get(to).reach;
        }
        state.shelves.get(s).remove(t);
        state.shelves.get(to).add(stack);
        return 0;
    }

    int where(int w, int what) {
        int[] p = isWare(w) ? state.find(w) : null;
        if (p == null || what < 0 || what > 4) {
            return -1;
        }
        List<Integer> stack = state.shelves.get(p[0]).get(p[1]);
        return new int[] {p[0], p[1], p[2], stack.size() - p[2] - 1, feet(stack).get(p[2])}[what];
    }

    int at(int s, int t, int i) {
        return isStack(s, t) && i >= 0 && i < state.shelves.get(s).get(t).size()
            ? state.shelves.get(s).get(t).get(i) : -1;
    }

    int stack(int s, int t, int what) {
        if (!isStack(s, t) || what < 0 || what > 2) {
            return -1;
        }
        List<Integer> stack = state.shelves.get(s).get(t);
        return what == 0 ? stack.size() : what == 1 ? rim(stack) : weigh(stack);
    }

    int lift(int w) {
        return isWare(w) && state.find(w) != null ? price(state, w) : -1;
    }

    private int price(State st, int w) {
        int[] p = st.find(w);
        return price(st.shelves.get(p[0]).get(p[1]), p[2], boards.get(p[0]).reach);
    }

    private int price(List<Integer> stack, int level, int reach) {
        int sum = 0;
        for (int i = level; i < stack.size(); i++) {
            int once = wares.get(stack.get(i)).weight + reach;
            sum += i == level ? once : once + once;
        }
        return sum;
    }

    int cost() {
        return state.cost;
    }

    int through(int u, int l) {
        return !isWare(u) || !isWare(l) ? -1 : reaches(u, l) ? 1 : 0;
    }

    private boolean reaches(int u, int l) {
        List<Integer> open = new ArrayList<>();
        List<Integer> seen = new ArrayList<>();
        open.add(l);
        while (!open.isEmpty()) {
            int below = open.remove(0);
            for (int w = 0; w < wares.size(); w++) {
                if (w != below && !seen.contains(w) && mayOn(w, below)) {
                    seen.add(w);
                    open.add(w);
                }
            }
        }
        return seen.contains(u);
    }

    private boolean round() {
        for (int w = 0; w < wares.size(); w++) {
            if (reaches(w, w)) {
                return true;
            }
        }
        return false;
    }

    private boolean[][] kin() {
        int n = wares.size();
        boolean[][] kin = new boolean[n][n];
        for (int i = 0; i < n; i++) {
            for (int j = 0; j < n; j++) {
                kin[i][j] = reaches(i, j) || reaches(j, i);
            }
        }
        return kin;
    }

    int rows(int what) {
        if (what < 0 || what > 1 || round()) {
            return -1;
        }
        return what == 0 ? Collections.max(firstRows()) + 1 : leastApart();
    }

    private int leastApart() {
        boolean[][] kin = kin();
        int best = 0;
        for (int set = 0; set < 1 << wares.size(); set++) {
            boolean apart = true;
            for (int i = 0; i < wares.size(); i++) {
                for (int j = 0; j < i; j++) {
                    apart &= (set >> i & 1) == 0 || (set >> j & 1) == 0 || !kin[i][j];
                }
            }
            if (apart && Integer.bitCount(set) > Integer.bitCount(best)) {
                best = set;
            }
        }
        return best;
    }

    int rowOf(int w) {
        return !isWare(w) || round() ? -1 : firstRows().get(w);
    }

    /** All partings in the order of their rows of numbers; the first of those with the fewest rows. */
    private List<Integer> firstRows() {
        List<Integer> best = new ArrayList<>();
        partings(new ArrayList<>(), -1, kin(), best);
        if (wares.isEmpty()) {
            best.clear();
            best.add(-1);
        }
        return best;
    }

    private void partings(List<Integer> given, int last, boolean[][] kin, List<Integer> best) {
        int w = given.size();
        if (w == wares.size()) {
            if (best.isEmpty() || last < Collections.max(best)) {
                best.clear();
                best.addAll(given);
            }
            return;
        }
        for (int row = 0; row <= last + 1; row++) {
            boolean fits = true;
            for (int i = 0; i < w; i++) {
                fits &= given.get(i) != row || kin[i][w];
            }
            if (fits) {
                given.add(row);
                partings(given, Math.max(last, row), kin, best);
                given.remove(w);
            }
        }
    }

    int needed(int height) {
        if (height < 1 || height > 999 || wares.stream().anyMatch(w -> w.deep > height)) {
            return -1;
        }
        boolean[] stands = new boolean[1 << wares.size()];
        for (int set = 1; set < stands.length; set++) {
            stands[set] = firstOrder(set, height) != null;
        }
        return fewest(new ArrayList<>(), 0, stands);
    }

    private int fewest(List<Integer> sets, int w, boolean[] stands) {
        if (w == wares.size()) {
            return sets.stream().allMatch(s -> stands[s]) ? sets.size() : 99;
        }
        int best = 99;
        for (int i = 0; i < sets.size(); i++) {
            sets.set(i, sets.get(i) | 1 << w);
            best = Math.min(best, fewest(sets, w + 1, stands));
            sets.set(i, sets.get(i) ^ 1 << w);
        }
        sets.add(1 << w);
        best = Math.min(best, fewest(sets, w + 1, stands));
        sets.remove(sets.size() - 1);
        return best;
    }

    private List<Integer> firstOrder(int set, int height) {
        for (List<Integer> order : orders(set)) {
            if (why(order, height) == 0) {
                return order;
            }
        }
        return null;
    }

    /** All orders of a set, first to last; those in which one MAY not stand are left out early, being most. */
    private List<List<Integer>> orders(int set) {
        List<List<Integer>> all = new ArrayList<>();
        orders(set, new ArrayList<>(), all);
        return all;
    }

    private void orders(int set, List<Integer> head, List<List<Integer>> all) {
        if (set == 0) {
            all.add(new ArrayList<>(head));
            return;
        }
        for (int w = 0; w < wares.size(); w++) {
            if ((set >> w & 1) == 1 && (head.isEmpty() || mayOn(w, head.get(head.size() - 1)))) {
                head.add(w);
                orders(set ^ 1 << w, head, all);
                head.remove(head.size() - 1);
            }
        }
    }

    int sorted(int set, int height, int i) {
        if (set < 0 || set >= 1 << wares.size() || i < 0 || height < 1 || height > 999) {
            return -1;
        }
        List<Integer> order = firstOrder(set, height);
        return order == null || i >= order.size() ? -1 : order.get(i);
    }

    int goes(int w, int what) {
        if (!isWare(w) || state.find(w) != null || what < 0 || what > 2) {
            return -1;
        }
        int[] best = null;
        for (int s = 0; s < boards.size(); s++) {
            for (int t = 0; t <= state.shelves.get(s).size(); t++) {
                if (tryPut(state, w, s, t) != 0) {
                    continue;
                }
                State then = state.copy();
                doPut(then, w, s, t);
                int lost = 0;
                for (int v = 0; v < wares.size(); v++) {
                    lost += then.find(v) == null && !goesSomewhere(then, v) ? 1 : 0;
                }
                int price = wares.get(w).weight + boards.get(s).reach;
                if (best == null || lost < best[2] || lost == best[2] && price < best[3]) {
                    best = new int[] {s, t, lost, price};
                }
            }
        }
        return best == null ? -1 : best[what];
    }

    private boolean goesSomewhere(State st, int w) {
        for (int s = 0; s < boards.size(); s++) {
            for (int t = 0; t <= st.shelves.get(s).size(); t++) {
                if (tryPut(st, w, s, t) == 0) {
                    return true;
                }
            }
        }
        return false;
    }

    int ask(int w) {
        if (!isWare(w) || state.askings.size() == 30) {
            return -1;
        }
        state.askings.add(w);
        return state.askings.size();
    }

    boolean clear() {
        state.askings.clear();
        return true;
    }

    int asked() {
        return state.askings.stream().filter(w -> state.find(w) != null).mapToInt(w -> price(state, w)).sum();
    }

    int best(int s, int t, int what) {
        if (!isStack(s, t) || what < 0) {
            return -1;
        }
        List<Integer> stack = state.shelves.get(s).get(t);
        if (stack.size() > 7 || what > stack.size()) {
            return -1;
        }
        int set = 0;
        for (int w : stack) {
            set |= 1 << w;
        }
        int least = Integer.MAX_VALUE;
        List<Integer> best = null;
        for (List<Integer> order : orders(set)) {
            if (why(order, boards.get(s).height) == 0) {
                int sum = 0;
                for (int w : state.askings) {
                    if (order.contains(w)) {
                        sum += price(order, order.indexOf(w), boards.get(s).reach);
                    }
                }
                if (sum < least) {
                    least = sum;
                    best = order;
                }
            }
        }
        return best == null ? -1 : what == 0 ? least : best.get(what - 1);
    }

    int onTop() {
        State st = state.copy();
        int sum = 0;
        for (int w : st.askings) {
            int[] p = st.find(w);
            if (p != null) {
                sum += price(st, w);
                List<Integer> next = new ArrayList<>(st.shelves.get(p[0]).get(p[1]));
                next.remove(p[2]);
                next.add(w);
                if (why(next, boards.get(p[0]).height) == 0) {
                    st.shelves.get(p[0]).set(p[1], next);
                }
            }
        }
        return sum;
    }

    int habit(int what) {
        int below = wares.stream().mapToInt(w -> w.habit).sum();
        if (below == 0 || what < 0 || what > 1) {
            return -1;
        }
        int above = 0;
        for (int w = 0; w < wares.size(); w++) {
            above += wares.get(w).habit * Math.max(0, lift(w));
        }
        int g = BigInteger.valueOf(above).gcd(BigInteger.valueOf(below)).intValue();
        return what == 0 ? above / g : below / g;
    }

    long whole(int w, int part) {
        if (!isWare(w) || part < 0 || part > 4) {
            throw new NoSuchElementException();
        }
        int lifts = 0;
        for (int a : state.askings) {
            int[] p = state.find(a);
            if (p != null) {
                int i = state.shelves.get(p[0]).get(p[1]).indexOf(w);
                lifts += i == p[2] ? 1 : i > p[2] ? 2 : 0;
            }
        }
        if (lifts > 17) {
            throw new NoSuchElementException();
        }
        if (part == 4) {
            return lifts;
        }
        BigInteger nine = BigInteger.TEN.pow(9);
        return BigInteger.valueOf(100 - wares.get(w).breaks).pow(lifts).divide(nine.pow(part)).mod(nine).longValue();
    }

    boolean mark(int i, boolean back) {
        if (i < 0 || i > 3 || back && marks[i] == null) {
            return false;
        }
        if (back) {
            state = marks[i].copy();
        } else {
            marks[i] = state.copy();
        }
        return true;
    }

    int count(int what) {
        int out = 0;
        for (int w = 0; w < wares.size(); w++) {
            out += state.find(w) == null ? 1 : 0;
        }
        switch (what) {
            case 0: return wares.size();
            case 1: return boards.size();
            case 2: return laws.size();
            case 3: return out;
            case 4: return state.askings.size();
            case 5: return tape.length();
            default: return -1;
        }
    }
}
