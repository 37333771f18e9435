/** Promises 15 to 20: THROUGH, ROWS, the STACKS needed, SORTED, WHERE one goes. */
public final class OrderTest {
    private static final int NEW = BowlShelf.NONE;

    private OrderTest() {
    }

    public static void main(String[] args) {
        through();
        throughItself();
        rows();
        rowOf();
        rowOfLaterOnes();
        rowsOfTwelve();
        needed();
        neededOfTwelve();
        sorted();
        sortedByHeight();
        goes();
        goesByCost();
        Check.end("OrderTest");
    }

    private static String plain(String name, int wide, int deep, int weight) {
        return Check.bowl(name, wide, deep, weight, 999, 0);
    }

    private static void through() {
        // each may stand on one that is up to 3 wider
        BowlShelf x = Check.told(Check.lid("a", 9, 1, 0) + plain("b", 6, 1, 1) + plain("c", 3, 1, 1) + plain("d", 20, 1, 1)
            + "nest inner < outer and outer < inner + 4 ;");
        Check.due("may", x.may(2, 0), 0);
        Check.due("b on a", x.through(1, 0), 1);
        Check.due("c through b, whatever it bears", x.through(2, 0), 1);
        Check.due("not the other way", x.through(0, 2), 0);
        Check.due("far", x.through(0, 3), 0);
        Check.due("itself", x.through(0, 0), 0);
        Check.due("none such", x.through(4, 0), -1);
        Check.due("none such", x.through(0, 4), -1);
        Check.due("none such", x.through(-1, 0), -1);
        Check.due("none such", x.through(0, -1), -1);
        BowlShelf y = Check.told(plain("a", 9, 1, 1) + plain("b", 6, 1, 1) + plain("c", 3, 1, 1) + "top b ;");
        Check.due("not through a top", y.through(2, 1), 0);
        Check.due("past it", y.through(2, 0), 1);
    }

    private static void throughItself() {
        BowlShelf x = Check.told(plain("a", 9, 1, 1) + plain("b", 9, 1, 1) + plain("c", 3, 1, 1) + "nest inner < outer + 1 ;");
        Check.due("a on b on a", x.through(0, 0), 1);
        Check.due("b", x.through(1, 1), 1);
        Check.due("c", x.through(2, 2), 0);
        Check.due("no rows", x.rows(0), -1);
        Check.due("no set", x.rows(1), -1);
        Check.due("no row", x.rowOf(2), -1);
    }

    private static void rows() {
        BowlShelf x = Check.told(plain("a", 9, 1, 1) + plain("b", 8, 1, 1) + plain("c", 8, 1, 1) + plain("d", 8, 1, 1)
            + plain("e", 7, 1, 1) + plain("f", 7, 1, 1) + plain("g", 7, 1, 1));
        Check.due("rows", x.rows(0), 3);
        Check.due("the least set", x.rows(1), 2 + 4 + 8);
        Check.due("what 2", x.rows(2), -1);
        Check.due("what -1", x.rows(-1), -1);
        BowlShelf one = Check.told(plain("a", 9, 1, 1) + plain("b", 8, 1, 1) + plain("c", 7, 1, 1));
        Check.due("one row", one.rows(0), 1);
        Check.due("the least set", one.rows(1), 1);
        BowlShelf apart = Check.told(plain("a", 9, 1, 1) + plain("b", 9, 1, 1) + plain("c", 9, 1, 1));
        Check.due("three rows", apart.rows(0), 3);
        Check.due("all", apart.rows(1), 7);
        BowlShelf none = new BowlShelf();
        Check.due("none", none.rows(0), 0);
        Check.due("none", none.rows(1), 0);
        Check.due("none", none.rows(2), -1);
    }

    private static void rowOf() {
        BowlShelf x = Check.told(plain("a", 9, 1, 1) + plain("b", 8, 1, 1) + plain("c", 8, 1, 1) + plain("d", 8, 1, 1)
            + plain("e", 7, 1, 1) + plain("f", 7, 1, 1) + plain("g", 10, 1, 1));
        int[] rows = {0, 0, 1, 2, 0, 1, 0};
        for (int w = 0; w < 7; w++) {
            Check.due("rowOf " + w, x.rowOf(w), rows[w]);
        }
        Check.due("none such", x.rowOf(7), -1);
        Check.due("none such", x.rowOf(-1), -1);
        Check.due("none such", new BowlShelf().rowOf(0), -1);
    }

    /** By wide and deep together: what comes first must leave room for what comes later. */
    private static void rowOfLaterOnes() {
        // c nests in both a and b, d in a alone: so a must be kept for d
        BowlShelf x = Check.told(plain("a", 9, 9, 1) + plain("c", 3, 3, 1) + plain("b", 5, 5, 1) + plain("d", 2, 7, 1)
            + "nest inner < outer and low < deep ;");
        Check.due("d on a", x.through(3, 0), 1);
        Check.due("d on b", x.through(3, 2), 0);
        Check.due("c on d", x.through(1, 3), 0);
        Check.due("rows", x.rows(0), 2);
        Check.due("set", x.rows(1), 2 + 8);
        int[] rows = {0, 0, 0, 1};
        for (int w = 0; w < 4; w++) {
            Check.due("rowOf " + w, x.rowOf(w), rows[w]);
        }
        // c may stand on a and on b, d on a alone: the first one that c fits is not its own
        BowlShelf y = Check.told(plain("a", 9, 9, 1) + plain("b", 9, 9, 1) + plain("c", 9, 9, 1) + plain("d", 9, 9, 1));
        Check.due("a row for each", y.rowOf(3), 3);
        Check.due("told anew", Check.tell(y, plain("a", 9, 9, 1) + plain("b", 20, 5, 1) + plain("c", 3, 3, 1)
            + plain("d", 2, 7, 1) + "nest inner < outer and low < deep ;"), 0);
        Check.due("rows", y.rows(0), 2);
        Check.due("set", y.rows(1), 3);
        int[] others = {0, 1, 1, 0};
        for (int w = 0; w < 4; w++) {
            Check.due("rowOf " + w, y.rowOf(w), others[w]);
        }
    }

    private static void rowsOfTwelve() {
        StringBuilder text = new StringBuilder();
        for (int i = 0; i < 12; i++) {
            text.append("lid ").append((char) ('a' + i)).append(" wide ").append(1 + i % 3).append(" weight 1 breaks 0;");
        }
        BowlShelf x = Check.told(text.toString());
        Check.due("rows", x.rows(0), 4);
        Check.due("set", x.rows(1), 1 + 8 + 64 + 512);
        for (int w = 0; w < 12; w++) {
            Check.due("rowOf " + w, x.rowOf(w), w / 3);
        }
        Check.due("all may be on top of what is wider, but a lid bears none", x.needed(1), 12);
    }

    private static void needed() {
        String three = plain("a", 9, 5, 1) + plain("b", 8, 5, 1) + plain("c", 7, 5, 1);
        BowlShelf x = Check.told(three);
        Check.due("one", x.needed(7), 1);
        Check.due("two", x.needed(6), 2);
        Check.due("three", x.needed(5), 3);
        Check.due("too high alone", x.needed(4), -1);
        Check.due("999", x.needed(999), 1);
        Check.due("1000", x.needed(1000), -1);
        Check.due("0", x.needed(0), -1);
        Check.due("-1", x.needed(-1), -1);
        BowlShelf none = new BowlShelf();
        Check.due("none", none.needed(1), 0);
        Check.due("none", none.needed(0), -1);
        Check.due("none", none.needed(1000), -1);
        // it matters what they bear: a bears b, or c, not both
        BowlShelf y = Check.told(Check.bowl("a", 9, 5, 1, 3, 0) + Check.bowl("b", 8, 5, 2, 9, 0) + Check.bowl("c", 7, 5, 2, 9, 0));
        Check.due("two", y.needed(99), 2);
        // a set may STAND though a part of it does not: c stands on a only with b between
        BowlShelf z = Check.told(plain("a", 9, 5, 1) + plain("b", 6, 5, 1) + plain("c", 3, 5, 1)
            + "nest inner < outer and outer < inner + 4 ;");
        Check.due("one", z.needed(7), 1);
        Check.due("two", z.needed(6), 2);
        // on its rim: in some order, not the order by numbers
        BowlShelf v = Check.told(plain("a", 5, 3, 1) + plain("b", 9, 8, 1) + "nest 1 ;");
        Check.due("a in b", v.needed(8), 1);
        Check.due("b", v.needed(7), -1);
        BowlShelf first = Check.told(plain("a", 5, 8, 1) + plain("b", 9, 3, 1));
        Check.due("the first one is too high", first.needed(7), -1);
        Check.due("the first one is not", first.needed(8), 2);
    }

    private static void neededOfTwelve() {
        StringBuilder text = new StringBuilder();
        for (int i = 0; i < 12; i++) {
            text.append("bowl ").append((char) ('a' + i)).append(" wide ").append(12 - i).append(" deep 4 weight 1 bears 9 breaks 0;");
        }
        BowlShelf x = Check.told(text.toString());
        Check.due("nine bear nine", x.needed(999), 2);
        Check.due("six rims", x.needed(9), 2);
        Check.due("five", x.needed(8), 3);
        Check.due("four", x.needed(7), 3);
        Check.due("three", x.needed(6), 4);
        Check.due("two", x.needed(5), 6);
        Check.due("one", x.needed(4), 12);
        Check.due("none", x.needed(3), -1);
        Check.due("sorted", x.sorted(0b10000000001, 5, 1), 10);
        Check.due("sorted", x.sorted(0b111111111100, 13, 9), 11);
        Check.due("all do not stand", x.sorted(4095, 999, 0), -1);
    }

    private static void sorted() {
        BowlShelf x = Check.told(plain("a", 7, 5, 1) + plain("b", 9, 5, 1) + plain("c", 8, 5, 1) + Check.lid("d", 1, 1, 0));
        int[] all = {1, 2, 0, 3};
        for (int i = 0; i < 4; i++) {
            Check.due("sorted " + i, x.sorted(15, 20, i), all[i]);
        }
        Check.due("no such i", x.sorted(15, 20, 4), -1);
        Check.due("no such i", x.sorted(15, 20, -1), -1);
        Check.due("no such ware", x.sorted(16, 20, 0), -1);
        Check.due("no such ware", x.sorted(17, 20, 0), -1);
        Check.due("no such ware", x.sorted(-1, 20, 0), -1);
        Check.due("no ware", x.sorted(0, 20, 0), -1);
        Check.due("one", x.sorted(4, 5, 0), 2);
        Check.due("the first one", x.sorted(1, 5, 0), 0);
        Check.due("no second", x.sorted(1, 5, 1), -1);
        Check.due("too high", x.sorted(4, 4, 0), -1);
        Check.due("two", x.sorted(6, 6, 1), 2);
        Check.due("too high", x.sorted(6, 5, 0), -1);
        Check.due("height 0", x.sorted(8, 0, 0), -1);
        Check.due("height -1", x.sorted(8, -1, 0), -1);
        Check.due("height 1", x.sorted(8, 1, 0), 3);
        Check.due("least height", x.sorted(8, Integer.MIN_VALUE, 0), -1);
        Check.due("height 999", x.sorted(15, 999, 0), 1);
        // what STANDS at 999 would STAND at more, but a height is 1 to 999, as of needed
        Check.due("height 1000", x.sorted(15, 1000, 0), -1);
        Check.due("height 1000, one ware", x.sorted(1, 1000, 0), -1);
        Check.due("greatest height", x.sorted(15, Integer.MAX_VALUE, 0), -1);
    }

    private static void sortedByHeight() {
        // all orders are allowed; what stands lowest comes of numbers only where it must
        BowlShelf x = Check.told(plain("a", 5, 3, 1) + plain("b", 9, 8, 1) + plain("c", 7, 6, 1) + "nest 1 ;");
        Check.due("b in c on a: 3 and 6 and 8", x.sorted(7, 17, 0), 0);
        Check.due("a, b, c: 3, then c in b", x.sorted(7, 11, 0), 0);
        Check.due("a, b, c", x.sorted(7, 11, 1), 1);
        Check.due("a, b, c", x.sorted(7, 11, 2), 2);
        Check.due("at 10: b below", x.sorted(7, 10, 0), 1);
        Check.due("at 10: b, a, c is 1 + 3 + 6", x.sorted(7, 10, 1), 0);
        Check.due("at 10: c", x.sorted(7, 10, 2), 2);
        Check.due("at 9: b, c, a", x.sorted(7, 9, 1), 2);
        Check.due("at 9: b, c, a", x.sorted(7, 9, 2), 0);
        Check.due("at 8: 8 is enough", x.sorted(7, 8, 0), 1);
        Check.due("at 7: none", x.sorted(7, 7, 0), -1);
    }

    private static void goes() {
        // one place for one that is high; a low one must not take it
        BowlShelf x = Check.told(plain("a", 9, 3, 1) + plain("b", 9, 9, 1) + plain("c", 9, 3, 1)
            + Check.shelf("s", 10, 1, 1) + Check.shelf("t", 3, 5, 1));
        Check.due("leaves b its place", x.goes(0, 0), 1);
        Check.due("a new one", x.goes(0, 1), 0);
        Check.due("c can go nowhere then? it can, in place of b", x.goes(0, 2), 0);
        Check.due("b has one place", x.goes(1, 0), 0);
        Check.due("none is lost: one of a, c each", x.goes(1, 2), 0);
        Check.due("what 3", x.goes(0, 3), -1);
        Check.due("what -1", x.goes(0, -1), -1);
        Check.due("none such", x.goes(3, 0), -1);
        Check.due("none such", x.goes(-1, 0), -1);
        x.put(0, 1, NEW);
        Check.due("not out", x.goes(0, 0), -1);
        Check.due("c takes b's place", x.goes(2, 0), 0);
        Check.due("b is lost", x.goes(2, 2), 1);
        x.put(1, 0, NEW);
        Check.due("nowhere", x.goes(2, 0), -1);
        Check.due("nowhere", x.goes(2, 2), -1);
        Check.due("nothing has changed", x.count(3), 1);
        Check.due("no shelf", Check.told(plain("a", 9, 3, 1)).goes(0, 0), -1);
        BowlShelf y = Check.told(plain("a", 9, 3, 1) + plain("b", 9, 3, 1) + Check.shelf("s", 10, 1, 1));
        Check.due("a is lost", y.goes(1, 2), 1);
        Check.due("b is lost", y.goes(0, 2), 1);
    }

    private static void goesByCost() {
        BowlShelf x = Check.told(plain("a", 9, 3, 1) + plain("b", 9, 3, 1) + plain("c", 8, 3, 1)
            + Check.shelf("s", 10, 5, 4) + Check.shelf("t", 10, 2, 4) + Check.shelf("u", 10, 2, 4));
        Check.due("the least cost, the first of them", x.goes(0, 0), 1);
        x.put(0, 1, NEW);
        x.put(1, 1, NEW);
        Check.due("the first shelf", x.goes(2, 0), 1);
        Check.due("the first stack", x.goes(2, 1), 0);
        Check.due("none lost", x.goes(2, 2), 0);
        BowlShelf y = Check.told(plain("a", 5, 3, 1) + plain("b", 9, 3, 1) + plain("c", 9, 3, 1)
            + Check.shelf("s", 10, 5, 2) + Check.shelf("t", 10, 9, 1));
        y.put(1, 0, NEW);
        Check.due("on b, so that c has room", y.goes(0, 0), 0);
        Check.due("the stack", y.goes(0, 1), 0);
        y.put(2, 0, NEW);
        y.draw(1);
        y.put(1, 0, NEW);
        Check.due("stacks as they are now: c is 0, b is 1", y.goes(0, 1), 0);
        // a new one counts as the stack behind the others
        BowlShelf z = Check.told(plain("a", 5, 3, 1) + plain("b", 5, 3, 1) + plain("c", 5, 3, 1) + Check.shelf("s", 10, 5, 8));
        z.put(0, 0, NEW);
        z.put(1, 0, NEW);
        Check.due("a new one", z.goes(2, 1), 2);
    }
}
