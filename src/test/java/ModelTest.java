import java.util.ArrayList;
import java.util.List;
import java.util.NoSuchElementException;
import java.util.Random;

/** Random runs of calls, held against PlainShelf; the same ones each time. */
public final class ModelTest {
    private static final String[] NAMES = {"a", "bb", "cup", "dish", "eggs", "inner", "low", "heavy", "jarjarja",
        "k", "l", "mm", "n", "under", "p", "q"};
    private static final String[] LAWS = {"1", "inner < outer + 9", "inner * light < outer * heavy + 1 or low < deep",
        "not ( inner = outer )", "low < deep + 2", "light < heavy or lid", "inner - outer", "outer < inner + 4 and inner < outer + 9", "low < deep + 30", "inner < outer and light < heavy"};
    private static final String[] ENDINGS = {"top sa", "top a ; top a", "habit zz 1", "habit a 1 ; habit a", "bowl a",
        "shelf a", "lid sa", "nest ( ( ( ( ( 1", "nest not ( not ( not not", "nest 1 ; nest 2 ; nest 3 ; nest 4 ; nest",
        "shelf sw height 0", "shelf sx height 5 reach 5 room 0", "top lid", "nest 1 )", "nest ( 1", "nest 1 < 2 = 3", "\n  "};
    private static final int RUNS = Integer.getInteger("runs", 1500);
    private static final int CALLS = 120;

    private final Random random;
    private BowlShelf x = new BowlShelf();
    private PlainShelf plain = new PlainShelf();
    private String story = "";

    private ModelTest(long seed) {
        random = new Random(seed);
    }

    public static void main(String[] args) {
        long seed = Long.getLong("seed", 1L);
        for (int run = 0; run < RUNS; run++) {
            new ModelTest(seed * 1000003 + run).run();
        }
        Check.end("ModelTest");
    }

    private int upTo(int n) {
        return random.nextInt(n + 1);
    }

    private boolean once(int in) {
        return random.nextInt(in) == 0;
    }

    private void run() {
        for (int i = 0; i < CALLS; i++) {
            if (i % 60 == 0 || plain.wares.isEmpty() && once(3)) {
                tell();
            } else {
                call();
            }
        }
    }

    // texts

    private void tell() {
        String text = cupboardText();
        if (once(5)) {
            text = spoil(text);
        }
        if (once(6)) {
            text = text.replace(" ;", ";").replace("; ", ";\n").replaceAll("([0-9]) ([a-z])", "$1$2");
        }
        story = "after '" + text + "': ";
        for (int i = 0; i < text.length(); i += 24) {
            long a = word(text, i);
            long b = word(text, i + 8);
            long c = word(text, i + 16);
            due("feed", x.feed(a, b, c), plain.feed(a, b, c));
        }
        due("cupboard()", x.cupboard(), plain.cupboard());
    }

    private static long word(String text, int from) {
        long word = 0;
        for (int i = from; i < from + 8; i++) {
            word = word << 8 | (i < text.length() ? text.charAt(i) : 200);
        }
        return word;
    }

    private String cupboardText() {
        List<String> parts = new ArrayList<>();
        boolean easy = once(2);
        int wares = once(30) ? 0 : easy ? 4 + upTo(3) : 1 + upTo(5);
        int small = once(2) ? 6 : 40;
        int bears = easy ? 999 : 60;
        for (int i = 0; i < wares; i++) {
            String name = NAMES[i];
            if (once(6)) {
                parts.add(Check.lid(name, 1 + upTo(small), 1 + upTo(small), upTo(99)));
            } else {
                parts.add(Check.bowl(name, 1 + upTo(small), 1 + upTo(small), 1 + upTo(small), upTo(bears), upTo(99)));
            }
        }
        int shelves = once(30) ? 0 : 1 + upTo(2);
        for (int i = 0; i < shelves; i++) {
            parts.add(random.nextInt(parts.size() + 1),
                Check.shelf("s" + (char) ('a' + i), 1 + (easy ? small + upTo(6 * small) : upTo(20)), upTo(once(2) ? 9 : 99), 1 + upTo(3)));
        }
        for (int i = 0; i < wares; i++) {
            if (once(7)) {
                parts.add("top " + NAMES[i] + " ; ");
            }
            if (once(3)) {
                parts.add("habit " + NAMES[i] + " " + upTo(99) + " ; ");
            }
        }
        int nests = once(3) ? 0 : easy ? 1 : 1 + upTo(2);
        for (int i = 0; i < nests; i++) {
            String law = once(easy ? 1 : 3) ? LAWS[random.nextInt(LAWS.length)] : either(0);
            parts.add(random.nextInt(parts.size() + 1), "nest " + law + " ; ");
        }
        return String.join("", parts);
    }

    private String either(int depth) {
        StringBuilder b = new StringBuilder(test(depth));
        for (int i = 0; i < 3 && once(4); i++) {
            b.append(once(2) ? " and " : " or ").append(test(depth));
        }
        return b.toString();
    }

    private String test(int depth) {
        String sum = sum(depth);
        return once(5) ? sum : sum + (once(4) ? " = " : " < ") + sum(depth);
    }

    private String sum(int depth) {
        StringBuilder b = new StringBuilder(product(depth));
        for (int i = 0; i < 3 && once(4); i++) {
            b.append(once(2) ? " + " : " - ").append(product(depth));
        }
        return b.toString();
    }

    private String product(int depth) {
        StringBuilder b = new StringBuilder(part(depth));
        for (int i = 0; i < 4 && once(6); i++) {
            b.append(" * ").append(part(depth));
        }
        return b.toString();
    }

    private String part(int depth) {
        if (depth < 6 && once(9)) {
            return "( " + either(depth + 1) + " )";
        }
        if (depth < 6 && once(12)) {
            return "not " + part(depth + 1);
        }
        String[] facts = {"inner", "outer", "low", "deep", "light", "heavy", "lid", "under", "" + upTo(20), "9999"};
        return facts[random.nextInt(facts.length)];
    }

    private String spoil(String text) {
        if (once(3)) {
            return text + ENDINGS[random.nextInt(ENDINGS.length)];
        }
        String[] words = text.split(" ");
        for (int n = upTo(1); n >= 0 && words.length > 0; n--) {
            int i = random.nextInt(words.length);
            String[] others = {"", ";", "0", "100", "1000", "12345", "bowl", "lid", "shelf", "nest 1 ;", "top a ;",
                "habit a 1 ;", "wide", "(", ")", "not", "not not", "( ( (", "A", "abcdefghi", "<", "=", "*", "a", "zz",
                "and", "#", words[random.nextInt(words.length)], words[i] + " " + words[i]};
            words[i] = others[random.nextInt(others.length)];
        }
        return String.join(" ", words);
    }

    // calls

    private void due(String call, long got, long want) {
        Check.due(story + call, got, want);
        if (got != want) {
            story = story + call + ' ';
        }
    }

    private int aWare() {
        return once(12) ? (once(2) ? -1 : plain.wares.size()) : random.nextInt(Math.max(1, plain.wares.size()));
    }

    /** Mostly one that stands, or one that is OUT. */
    private int aWare(boolean stands) {
        if (!stands && plain.count(3) == 0) {
            return aWare();
        }
        int w = aWare();
        for (int n = 0; n < 20 && plain.where(w, 0) != -1 != stands; n++) {
            w = aWare();
        }
        return w;
    }

    private int aShelf() {
        return once(15) ? (once(2) ? -1 : plain.boards.size()) : random.nextInt(Math.max(1, plain.boards.size()));
    }

    private int aStack() {
        return upTo(once(4) ? 3 : 1) - (once(20) ? 1 : 0);
    }

    private void call() {
        switch (upTo(32)) {
            case 0: case 1: case 2: case 3: case 4: case 5: case 6: case 7: put(); break;
            case 8: case 32: { int w = aWare(true); due("draw " + w, x.draw(w), plain.draw(w)); break; }
            case 9: carry(); break;
            case 10: { int w = aWare(true); int k = upTo(6) - 1; due("where " + w + "," + k, x.where(w, k), plain.where(w, k)); break; }
            case 11: { int s = aShelf(); int t = aStack(); int i = upTo(4) - 1; due("at", x.at(s, t, i), plain.at(s, t, i)); break; }
            case 12: { int s = aShelf(); int t = aStack(); int k = upTo(4) - 1; due("stack", x.stack(s, t, k), plain.stack(s, t, k)); break; }
            case 13: { int w = aWare(true); due("lift " + w, x.lift(w), plain.lift(w)); break; }
            case 14: due("cost()", x.cost(), plain.cost()); break;
            case 15: { int u = aWare(); int l = aWare(); due("through " + u + "," + l, x.through(u, l), plain.through(u, l)); break; }
            case 16: { int k = upTo(3) - 1; due("rows " + k, x.rows(k), plain.rows(k)); break; }
            case 17: { int w = aWare(); due("rowOf " + w, x.rowOf(w), plain.rowOf(w)); break; }
            case 18: { int h = aHeight(); due("needed " + h, x.needed(h), plain.needed(h)); break; }
            case 19: sorted(); break;
            case 20: { int w = aWare(false); for (int k = -1; k < 4; k++) { due("goes " + w + "," + k, x.goes(w, k), plain.goes(w, k)); } break; }
            case 21: case 22: case 23: { int w = aWare(); due("ask " + w, x.ask(w), plain.ask(w)); break; }
            case 24: askAndClear(); break;
            case 25: due("asked()", x.asked(), plain.asked()); break;
            case 26: best(); break;
            case 27: due("onTop()", x.onTop(), plain.onTop()); break;
            case 28: { int k = upTo(3) - 1; due("habit " + k, x.habit(k), plain.habit(k)); break; }
            case 29: whole(); break;
            case 30: mark(); break;
            default: facts(); break;
        }
    }

    private int aHeight() {
        return once(9) ? 998 + upTo(2) : once(9) ? upTo(2) - 1 : upTo(once(2) ? 15 : 60);
    }

    private void put() {
        int w = aWare(false);
        int s = aShelf();
        int stacks = Math.max(0, plain.shelf(s, 3));
        int t = stacks == 0 || once(6) ? -1 : once(9) ? aStack() : random.nextInt(stacks);
        due("put " + w + "," + s + "," + t, x.put(w, s, t), plain.put(w, s, t));
    }

    private void carry() {
        int s = aShelf();
        int t = aStack();
        int to = once(8) ? aShelf() : random.nextInt(4);
        due("carry " + s + "," + t + "," + to, x.carry(s, t, to), plain.carry(s, t, to));
    }

    private void sorted() {
        int set = upTo(1 << plain.wares.size()) - (once(20) ? 2 : 0);
        int height = once(3) ? 998 + random.nextInt(3) : aHeight();
        for (int i = -1; i <= Integer.bitCount(set); i++) {
            due("sorted " + set + "," + height + "," + i, x.sorted(set, height, i), plain.sorted(set, height, i));
        }
    }

    private void askAndClear() {
        if (once(4)) {
            due("clear()", x.clear() ? 1 : 0, plain.clear() ? 1 : 0);
        }
        for (int n = once(3) ? 30 : 4; n > 0; n--) {
            int w = aWare();
            due("ask " + w, x.ask(w), plain.ask(w));
        }
    }

    private void best() {
        int s = aShelf();
        int t = aStack();
        for (int k = -1; k < 9; k++) {
            due("best " + s + "," + t + "," + k, x.best(s, t, k), plain.best(s, t, k));
        }
    }

    private void whole() {
        int w = aWare();
        for (int part = -1; part < 6; part++) {
            long want;
            try {
                want = plain.whole(w, part);
            } catch (NoSuchElementException e) {
                want = Check.THROWS;
            }
            due("whole " + w + "," + part, Check.whole(x, w, part), want);
        }
    }

    private void mark() {
        int m = upTo(5) - 1;
        boolean back = once(2);
        due("mark " + m + "," + back, x.mark(m, back) ? 1 : 0, plain.mark(m, back) ? 1 : 0);
    }

    private void facts() {
        int w = aWare();
        int v = aWare();
        int s = aShelf();
        due("may " + w + "," + v, x.may(w, v), plain.may(w, v));
        for (int k = -1; k < 9; k++) {
            due("ware " + w + "," + k, x.ware(w, k), plain.ware(w, k));
            due("shelf " + s + "," + k, x.shelf(s, k), plain.shelf(s, k));
            due("count " + k, x.count(k), plain.count(k));
        }
    }
}
