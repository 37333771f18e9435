/** Promises 7 to 14 and 28: PUT, DRAWN, CARRIED, where all is, what it costs, MARKS. */
public final class ActsTest {
    private static final int NEW = BowlShelf.NONE;

    private ActsTest() {
    }

    public static void main(String[] args) {
        putRefused();
        putFirstReason();
        putRims();
        drawRefused();
        drawGone();
        carry();
        where();
        at();
        stack();
        lift();
        cost();
        mark();
        Check.end("ActsTest");
    }

    /** 0 to 3: each fits in the one before; 4 is a lid. */
    private static BowlShelf nested() {
        return Check.told(Check.bowl("a", 40, 10, 4, 6, 0) + Check.bowl("b", 30, 9, 3, 6, 0)
            + Check.bowl("c", 20, 20, 2, 5, 0) + Check.bowl("d", 10, 2, 1, 0, 0) + Check.lid("e", 25, 4, 0)
            + Check.shelf("s", 22, 5, 2) + Check.shelf("t", 30, 1, 1) + Check.shelf("u", 8, 0, 8));
    }

    private static void putRefused() {
        BowlShelf x = nested();
        Check.due("no such ware", x.put(5, 0, NEW), 1);
        Check.due("no such ware", x.put(-1, 0, NEW), 1);
        Check.due("no such shelf", x.put(0, 3, NEW), 1);
        Check.due("no such shelf", x.put(0, -1, NEW), 1);
        Check.due("no such stack", x.put(0, 0, 0), 1);
        Check.due("no such stack", x.put(0, 0, -2), 1);
        Check.due("new", x.put(0, 0, NEW), 0);
        Check.due("no such stack, though a new one would be it", x.put(1, 0, 1), 1);
        Check.due("not out", x.put(0, 0, NEW), 2);
        Check.due("not out", x.put(0, 0, 0), 2);
        Check.due("in", x.put(1, 0, 0), 0);
        Check.due("too high: 2 + 20 is not", x.put(2, 0, 0), 0);
        Check.due("bears 6, has 6 then", x.put(3, 0, 0), 0);
        Check.due("may not: wider", x.put(4, 0, 0), 4);
        Check.due("a second", x.put(4, 0, NEW), 0);
        Check.due("all stand", x.count(3), 0);
    }

    private static void putFirstReason() {
        BowlShelf x = nested();
        x.put(3, 0, NEW);
        x.put(2, 0, NEW);
        Check.due("no room", x.put(0, 0, NEW), 3);
        Check.due("may not", x.put(0, 0, 0), 4);
        Check.due("room of others", x.put(0, 1, NEW), 0);
        Check.due("no room, though not such a stack", x.put(1, 1, NEW), 3);
        Check.due("a new one too high", x.put(1, 2, NEW), 6);
        // a bears 6: 3 and 4 are too much, though e would fit
        Check.due("b in a", x.put(1, 1, 0), 0);
        Check.due("too heavy below", x.put(4, 1, 0), 5);
        BowlShelf y = Check.told(Check.bowl("a", 9, 5, 1, 0, 0) + Check.bowl("b", 8, 5, 1, 9, 0) + Check.bowl("c", 9, 5, 1, 9, 0)
            + Check.shelf("s", 5, 0, 1));
        y.put(0, 0, NEW);
        Check.due("5 ahead of 6", y.put(1, 0, 0), 5);
        Check.due("4 ahead of 5", y.put(2, 0, 0), 4);
        Check.due("nothing has changed", y.stack(0, 0, 0), 1);
        Check.due("nothing is paid", y.cost(), 1);
        Check.due("3 for a new one", y.put(1, 0, NEW), 3);
    }

    private static void putRims() {
        // as wide: on the rim; less wide: in it; on a lid: on its rim, bears 0
        String law = "nest 1 ; ";
        BowlShelf x = Check.told(law + Check.bowl("a", 9, 5, 1, 99, 0) + Check.bowl("b", 9, 3, 1, 99, 0)
            + Check.bowl("c", 8, 2, 1, 99, 0) + Check.lid("d", 10, 1, 0) + Check.bowl("e", 3, 3, 1, 9, 0)
            + Check.shelf("s", 9, 0, 9 - 1));
        x.put(0, 0, NEW);
        x.put(1, 0, 0);
        Check.due("foot on the rim", x.where(1, 4), 5);
        Check.due("rim", x.stack(0, 0, 1), 8);
        x.put(2, 0, 0);
        Check.due("foot in it", x.where(2, 4), 6);
        Check.due("a deeper rim stays the highest", x.stack(0, 0, 1), 8);
        Check.due("a lid on the rim", x.put(3, 0, 0), 0);
        Check.due("its foot", x.where(3, 4), 8);
        Check.due("its rim is the height", x.stack(0, 0, 1), 9);
        Check.due("a lid bears none", x.put(4, 0, 0), 5);
        Check.due("draw the lid", x.draw(3), 0);
        Check.due("too high", x.put(4, 0, 0), 6);
    }

    private static void drawRefused() {
        BowlShelf x = nested();
        Check.due("no such", x.draw(5), 1);
        Check.due("no such", x.draw(-1), 1);
        Check.due("out", x.draw(0), 2);
        // a law that is not handed on: 2 may stand on 1, 1 on 0, but not 2 on 0
        BowlShelf y = Check.told(Check.bowl("a", 9, 5, 1, 99, 0) + Check.bowl("b", 6, 5, 1, 99, 0) + Check.bowl("c", 3, 5, 1, 99, 0)
            + "nest outer < inner + 4 and inner < outer ; " + Check.shelf("s", 7, 0, 1));
        y.put(0, 0, NEW);
        y.put(1, 0, 0);
        Check.due("c on b", y.put(2, 0, 0), 0);
        Check.due("c may not stand on a", y.draw(1), 4);
        Check.due("it stands still", y.where(1, 2), 1);
        Check.due("nothing is paid for it", y.cost(), 3);
        Check.due("from below", y.draw(0), 0);
        Check.due("b is the first one", y.at(0, 0, 0), 1);
        Check.due("its foot", y.where(2, 4), 1);
        // b nests in a, c in b, but c is as wide as a: it is high on a
        BowlShelf z = Check.told(Check.bowl("a", 9, 5, 1, 99, 0) + Check.bowl("b", 12, 1, 1, 99, 0) + Check.bowl("c", 9, 5, 1, 99, 0)
            + "nest 1 ; " + Check.shelf("s", 11, 0, 1) + Check.shelf("t", 9, 0, 1));
        z.put(1, 0, NEW);
        z.put(0, 0, 0);
        Check.due("1 + 5 + 5", z.put(2, 0, 0), 0);
        Check.due("the middle one", z.draw(0), 0);
        Check.due("c in b", z.where(2, 4), 1);
        BowlShelf v = Check.told(Check.bowl("a", 9, 8, 1, 99, 0) + Check.bowl("b", 8, 2, 1, 99, 0) + Check.bowl("c", 20, 6, 1, 99, 0)
            + "nest 1 ; " + Check.shelf("s", 9, 0, 1));
        v.put(0, 0, NEW);
        v.put(1, 0, 0);
        Check.due("1 + 2 + 6", v.put(2, 0, 0), 0);
        Check.due("8 + 6 is too high", v.draw(1), 6);
        Check.due("the top one goes", v.draw(2), 0);
        Check.due("now it goes", v.draw(1), 0);
    }

    private static void drawGone() {
        BowlShelf x = Check.told(Check.bowl("a", 9, 5, 1, 99, 0) + Check.bowl("b", 9, 5, 2, 99, 0) + Check.bowl("c", 9, 5, 3, 99, 0)
            + Check.bowl("d", 8, 5, 3, 99, 0) + Check.shelf("s", 9, 0, 3));
        x.put(0, 0, NEW);
        x.put(1, 0, NEW);
        x.put(2, 0, NEW);
        x.put(3, 0, 2);
        Check.due("stacks", x.shelf(0, 3), 3);
        Check.due("draw", x.draw(1), 0);
        Check.due("it is gone", x.shelf(0, 3), 2);
        Check.due("those behind come ahead", x.where(2, 1), 1);
        Check.due("with all on it", x.where(3, 1), 1);
        Check.due("the first stays", x.where(0, 1), 0);
        Check.due("room again", x.put(1, 0, NEW), 0);
        Check.due("the last one", x.where(1, 1), 2);
        x.draw(0);
        x.put(0, 0, NEW);
        Check.due("the last one", x.where(0, 1), 2);
        x.draw(1);
        Check.due("the first WARE comes ahead, too", x.where(0, 1), 1);
    }

    private static void carry() {
        BowlShelf x = nested();
        x.put(0, 0, NEW);
        x.put(1, 0, 0);
        x.put(2, 0, NEW);
        int before = x.cost();
        Check.due("no such shelf", x.carry(3, 0, 1), 1);
        Check.due("no such shelf", x.carry(-1, 0, 1), 1);
        Check.due("no such stack", x.carry(0, 2, 1), 1);
        Check.due("no such stack", x.carry(0, -1, 1), 1);
        Check.due("no such goal", x.carry(0, 0, 3), 1);
        Check.due("no such goal", x.carry(0, 0, -1), 1);
        Check.due("the same shelf", x.carry(0, 0, 0), 1);
        Check.due("too high", x.carry(0, 0, 2), 6);
        Check.due("nothing is paid", x.cost(), before);
        Check.due("carried", x.carry(0, 0, 1), 0);
        Check.due("2 * (4 + 3) and 2 * (5 + 1)", x.cost(), before + 26);
        Check.due("the other one comes ahead", x.where(2, 1), 0);
        Check.due("as it stood", x.at(1, 0, 0), 0);
        Check.due("as it stood", x.at(1, 0, 1), 1);
        Check.due("no room", x.carry(0, 0, 1), 3);
        Check.due("back", x.carry(1, 0, 0), 0);
        Check.due("as the last one", x.where(0, 1), 1);
        Check.due("gone there", x.shelf(1, 3), 0);
        BowlShelf y = Check.told(Check.bowl("a", 9, 5, 1, 9, 0) + Check.shelf("s", 9, 0, 1) + Check.shelf("t", 5, 0, 1)
            + Check.shelf("u", 4, 0, 1));
        y.put(0, 0, NEW);
        Check.due("a rim above the height", y.carry(0, 0, 2), 6);
        Check.due("a rim at the height", y.carry(0, 0, 1), 0);
    }

    private static void where() {
        BowlShelf x = nested();
        Check.due("out", x.where(0, 0), -1);
        x.put(3, 0, NEW);
        x.put(0, 1, NEW);
        x.put(1, 1, 0);
        x.put(2, 1, 0);
        int[][] all = {{1, 0, 0, 2, 0}, {1, 0, 1, 1, 1}, {1, 0, 2, 0, 2}, {0, 0, 0, 0, 0}};
        for (int w = 0; w < 4; w++) {
            for (int what = 0; what < 5; what++) {
                Check.due("where " + w + " " + what, x.where(w, what), all[w][what]);
            }
            Check.due("where what 5", x.where(w, 5), -1);
            Check.due("where what -1", x.where(w, -1), -1);
        }
        Check.due("out", x.where(4, 0), -1);
        Check.due("no such", x.where(5, 0), -1);
        Check.due("no such", x.where(-1, 0), -1);
    }

    private static void at() {
        BowlShelf x = nested();
        Check.due("no stack", x.at(0, 0, 0), -1);
        x.put(1, 0, NEW);
        x.put(2, 0, 0);
        Check.due("at 0", x.at(0, 0, 0), 1);
        Check.due("at 1", x.at(0, 0, 1), 2);
        Check.due("at 2", x.at(0, 0, 2), -1);
        Check.due("at -1", x.at(0, 0, -1), -1);
        Check.due("no stack", x.at(0, 1, 0), -1);
        Check.due("no stack", x.at(0, -1, 0), -1);
        Check.due("no shelf", x.at(3, 0, 0), -1);
        Check.due("no shelf", x.at(-1, 0, 0), -1);
    }

    private static void stack() {
        BowlShelf x = nested();
        x.put(0, 0, NEW);
        x.put(2, 0, 0);
        x.put(3, 0, 0);
        Check.due("how many", x.stack(0, 0, 0), 3);
        Check.due("highest rim: of the middle one", x.stack(0, 0, 1), 21);
        Check.due("weights", x.stack(0, 0, 2), 7);
        Check.due("what 3", x.stack(0, 0, 3), -1);
        Check.due("what -1", x.stack(0, 0, -1), -1);
        Check.due("no stack", x.stack(0, 1, 0), -1);
        Check.due("no stack", x.stack(0, -1, 0), -1);
        Check.due("no shelf", x.stack(3, 0, 0), -1);
    }

    private static void lift() {
        BowlShelf x = nested();
        Check.due("out", x.lift(0), -1);
        x.put(0, 0, NEW);
        x.put(1, 0, 0);
        x.put(2, 0, 0);
        Check.due("the top one", x.lift(2), 7);
        Check.due("one above", x.lift(1), 8 + 2 * 7);
        Check.due("two above", x.lift(0), 9 + 2 * (8 + 7));
        Check.due("no such", x.lift(5), -1);
        Check.due("no such", x.lift(-1), -1);
        // what is left would not stand: it costs all the same
        BowlShelf y = Check.told(Check.bowl("a", 9, 5, 1, 99, 0) + Check.bowl("b", 6, 5, 1, 99, 0) + Check.bowl("c", 3, 5, 1, 99, 0)
            + "nest outer < inner + 4 ; " + Check.shelf("s", 7, 3, 1));
        y.put(0, 0, NEW);
        y.put(1, 0, 0);
        y.put(2, 0, 0);
        Check.due("refused", y.draw(1), 4);
        Check.due("lift", y.lift(1), 12);
    }

    private static void cost() {
        BowlShelf x = nested();
        x.put(0, 0, NEW);
        Check.due("put: 4 + 5", x.cost(), 9);
        x.put(1, 0, 0);
        Check.due("put: 3 + 5", x.cost(), 17);
        x.put(1, 0, 0);
        Check.due("refused", x.cost(), 17);
        x.draw(0);
        Check.due("drawn: 9 and twice 8", x.cost(), 42);
        x.carry(0, 0, 1);
        Check.due("carried: 6 + 5 + 1", x.cost(), 54);
        x.draw(1);
        Check.due("drawn: 3 + 1", x.cost(), 58);
        Check.tell(x, "bowl");
        Check.due("a fault changes nothing", x.cost(), 58);
        // the document names what a new CUPBOARD takes away, and COSTS are not among it
        Check.tell(x, Check.bowl("a", 1, 1, 1, 1, 1));
        Check.due("all costs are added up", x.cost(), 58);
    }

    private static void mark() {
        BowlShelf x = nested();
        Check.due("nothing on it", x.mark(0, true), false);
        Check.due("none such", x.mark(4, false), false);
        Check.due("none such", x.mark(-1, false), false);
        Check.due("none such", x.mark(4, true), false);
        Check.due("laid", x.mark(3, false), true);
        x.put(0, 0, NEW);
        x.put(1, 0, 0);
        x.ask(1);
        Check.due("laid", x.mark(0, false), true);
        x.draw(0);
        x.put(0, 1, NEW);
        x.ask(0);
        x.ask(0);
        Check.feed(x, "top");
        Check.due("back", x.mark(0, true), true);
        Check.due("where", x.where(0, 0), 0);
        Check.due("below", x.where(1, 2), 1);
        Check.due("costs", x.cost(), 17);
        Check.due("askings", x.count(4), 1);
        Check.due("asked", x.asked(), 8);
        Check.due("the tape stays", x.count(5), 3);
        x.draw(1);
        Check.due("it holds still", x.mark(0, true), true);
        Check.due("below", x.where(1, 2), 1);
        Check.due("the other one", x.mark(3, true), true);
        Check.due("out", x.count(3), 5);
        Check.due("costs", x.cost(), 0);
        Check.due("askings", x.count(4), 0);
        Check.due("laid anew", x.mark(0, false), true);
        x.put(0, 0, NEW);
        Check.due("back", x.mark(0, true), true);
        Check.due("out", x.count(3), 5);
        Check.due("nothing on it", x.mark(1, true), false);
    }
}
