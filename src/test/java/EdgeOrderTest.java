/** THROUGH, ROWS, STACKS needed, SORTED, WHERE: each sentence of the document that names an edge, and answers due by it. */
public final class EdgeOrderTest {
    private static final int NEW = BowlShelf.NONE;
    private static final int MOST = Integer.MAX_VALUE;
    private static final int LEAST = Integer.MIN_VALUE;

    private EdgeOrderTest() {
    }

    public static void main(String[] args) {
        throughByChains();
        throughOrItself();
        rowsIfNone();
        rowsFewest();
        rowsLeastSet();
        rowsOthers();
        rowOfInOrder();
        rowOfOthers();
        neededHeights();
        neededAlone();
        neededFewest();
        neededInSomeOrder();
        neededLaterOnesWorse();
        sortedFirstOrder();
        sortedOthers();
        sortedDoNotStand();
        goesAllPlaces();
        goesFewestLost();
        goesOfEqualOnes();
        goesOthers();
        goesNowhere();
        Check.end("EdgeOrderTest");
    }

    private static String easy(String name, int wide, int deep) {
        return Check.bowl(name, wide, deep, 1, 999, 0);
    }

    /** Lids of some widths: they bear nothing. */
    private static String lids(int... wide) {
        StringBuilder text = new StringBuilder();
        for (int i = 0; i < wide.length; i++) {
            text.append("lid ").append((char) ('a' + i)).append(" wide ").append(wide[i]).append(" weight 1 breaks 0;");
        }
        return text.toString();
    }

    private static int[] rowsOf(BowlShelf x) {
        int[] rows = new int[x.count(0)];
        for (int w = 0; w < rows.length; w++) {
            rows[w] = x.rowOf(w);
        }
        return rows;
    }

    private static int[] order(BowlShelf x, int set, int height) {
        int[] wares = new int[Integer.bitCount(set)];
        for (int i = 0; i < wares.length; i++) {
            wares[i] = x.sorted(set, height, i);
        }
        return wares;
    }

    private static void throughByChains() {
        Check.says("THROUGH: a WARE may be above another one by a chain of WARES each of which MAY stand on the one before (whatever it bears).");
        BowlShelf x = Check.told(lids(12, 11, 10, 9, 8, 7, 6, 5, 4, 3, 2, 1) + "nest inner + 1 = outer;");
        for (int upper = 0; upper < 12; upper++) {
            for (int lower = 0; lower < 12; lower++) {
                Check.due(upper + " above " + lower, x.through(upper, lower), upper > lower ? 1 : 0);
            }
        }
        // the other way round, and with a link that is missing
        BowlShelf y = Check.told(lids(1, 2, 3, 4, 6, 7, 8, 9, 10, 11, 12, 13) + "nest inner + 1 = outer;");
        Check.row("up to the gap", new int[] {y.through(0, 3), y.through(3, 4), y.through(0, 4), y.through(4, 11), y.through(0, 11)}, 1, 0, 0, 1, 0);
        BowlShelf z = Check.told(lids(3, 2, 1) + "nest inner + 1 = outer; top b;");
        Check.row("a top ends a chain", new int[] {z.through(1, 0), z.through(2, 1), z.through(2, 0)}, 1, 0, 0);
    }

    private static void throughOrItself() {
        Check.says("Whether one is THROUGH above another one (or itself): 1 or 0; NONE: others.");
        BowlShelf x = Check.told(lids(1, 2, 3, 3, 2, 1, 1, 1, 1, 1, 1, 9) + "nest (inner + 1 = outer) or (inner = 3 and outer = 1);");
        Check.row("round by three", new int[] {x.through(0, 0), x.through(1, 1), x.through(2, 2), x.through(11, 11)}, 1, 1, 1, 0);
        BowlShelf y = Check.told(lids(5));
        Check.row("one alone", new int[] {y.through(0, 0), y.through(0, 1), y.through(1, 0)}, 0, -1, -1);
        BowlShelf z = Check.told(lids(5, 5) + "nest 1;");
        Check.row("two", new int[] {z.through(0, 0), z.through(1, 1), z.through(0, 1)}, 1, 1, 1);
        Check.all("others", new int[] {z.through(2, 0), z.through(0, 2), z.through(-1, 0), z.through(0, -1), z.through(2, 2), z.through(-1, -1),
            z.through(MOST, 0), z.through(0, LEAST), z.through(32, 0), z.through(12, 12)}, -1);
    }

    private static void rowsIfNone() {
        Check.says("ROWS: if no WARE is THROUGH above itself");
        BowlShelf x = Check.told(lids(5, 5, 1) + "nest inner < outer + 1;");
        Check.all("two are", new int[] {x.rows(0), x.rows(1), x.rows(2), x.rowOf(0), x.rowOf(1), x.rowOf(2)}, -1);
        BowlShelf y = Check.told(lids(5, 5, 1) + "nest inner < outer + 1; top b;");
        Check.row("none is now", new int[] {y.rows(0), y.rows(1), y.rowOf(0), y.rowOf(1), y.rowOf(2)}, 2, 2 + 4, 0, 0, 1);
        BowlShelf z = Check.told(lids(1, 1, 1, 1, 1, 1, 1, 1, 1, 1, 9, 9) + "nest inner = 9 and outer = 9;");
        Check.all("the last two are", new int[] {z.rows(0), z.rows(1), z.rowOf(0), z.rowOf(11)}, -1);
    }

    private static void rowsFewest() {
        Check.says("the fewest rows into which all WARES can be parted so that of each two in a row one is THROUGH above the other");
        Check.due("none", Check.told("").rows(0), 0);
        Check.due("one", Check.told(lids(1)).rows(0), 1);
        Check.due("twelve apart", Check.told(lids(5, 5, 5, 5, 5, 5, 5, 5, 5, 5, 5, 5)).rows(0), 12);
        Check.due("twelve in one", Check.told(lids(1, 2, 3, 4, 5, 6, 7, 8, 9, 10, 11, 12)).rows(0), 1);
        Check.due("through others", Check.told(lids(1, 2, 3, 4) + "nest inner + 1 = outer;").rows(0), 1);
        Check.due("three and three", Check.told(lids(1, 2, 3, 1, 2, 3)).rows(0), 2);
        Check.due("one more", Check.told(lids(1, 2, 3, 1, 2, 3, 2)).rows(0), 3);
    }

    private static void rowsLeastSet() {
        Check.says("as many WARES (the most) are there of which none is THROUGH above another one: the set that is least as bits.");
        Check.due("of none", Check.told("").rows(1), 0);
        Check.due("of one", Check.told(lids(1)).rows(1), 1);
        Check.due("of twelve apart", Check.told(lids(5, 5, 5, 5, 5, 5, 5, 5, 5, 5, 5, 5)).rows(1), 4095);
        Check.due("of twelve in one row", Check.told(lids(1, 2, 3, 4, 5, 6, 7, 8, 9, 10, 11, 12)).rows(1), 1);
        // least as bits, not by the first of them: 1 and 2 are less than 0 and 3
        Check.due("1 and 2", Check.told(lids(9, 5, 5, 9)).rows(1), 6);
        Check.due("0 and 2", Check.told(lids(9, 5, 9, 5)).rows(1), 5);
        Check.due("the last two", Check.told(lids(1, 2, 3, 4, 5, 6, 7, 8, 9, 10, 11, 11)).rows(1), 1 << 11 | 1 << 10);
        BowlShelf x = Check.told(lids(1, 2, 3) + "nest inner + 1 = outer;");
        Check.due("0 is through above 2, though it may not stand there", x.rows(1), 1);
    }

    private static void rowsOthers() {
        Check.says("NONE: another what, one is THROUGH above itself.");
        BowlShelf x = Check.told(lids(9, 5, 5, 9));
        Check.all("another what", new int[] {x.rows(2), x.rows(-1), x.rows(MOST), x.rows(LEAST)}, -1);
        Check.row("what", new int[] {x.rows(0), x.rows(1)}, 2, 6);
        Check.due("told anew", Check.tell(x, lids(1, 1) + "nest 1;"), 0);
        Check.row("round", new int[] {x.rows(0), x.rows(1)}, -1, -1);
        Check.due("told anew", Check.tell(x, lids(1, 1, 1)), 0);
        Check.row("not round", new int[] {x.rows(0), x.rows(1)}, 3, 7);
        Check.due("an empty one", x.cupboard(), 0);
        Check.row("empty", new int[] {x.rows(0), x.rows(1), x.rows(2)}, 0, 0, -1);
    }

    private static void rowOfInOrder() {
        Check.says("WARES are given rows in order, WARE 0 row 0, each a row that is there or the next new one, "
            + "so that the row of numbers is the first of all");
        Check.row("one row", rowsOf(Check.told(lids(1, 2, 3, 4, 5, 6, 7, 8, 9, 10, 11, 12))), 0, 0, 0, 0, 0, 0, 0, 0, 0, 0, 0, 0);
        Check.row("twelve rows", rowsOf(Check.told(lids(5, 5, 5, 5, 5, 5, 5, 5, 5, 5, 5, 5))), 0, 1, 2, 3, 4, 5, 6, 7, 8, 9, 10, 11);
        Check.row("pairs", rowsOf(Check.told(lids(5, 5, 3, 3, 4, 4))), 0, 1, 0, 1, 0, 1);
        Check.row("a third row", rowsOf(Check.told(lids(5, 4, 5, 3, 5, 3))), 0, 0, 1, 0, 2, 1);
        // wide and deep: c (3, 3) is within a (9, 9) and b (20, 5), d (2, 7) within a alone: c must leave row 0 to d
        BowlShelf x = Check.told(easy("a", 9, 9) + easy("b", 20, 5) + easy("c", 3, 3) + easy("d", 2, 7) + "nest inner < outer and low < deep;");
        Check.row("a later one needs it", rowsOf(x), 0, 1, 1, 0);
        // here d (2, 4) is within b, too: c takes row 0
        BowlShelf y = Check.told(easy("a", 9, 9) + easy("b", 20, 5) + easy("c", 3, 3) + easy("d", 2, 4) + "nest inner < outer and low < deep;");
        Check.row("no later one needs it", rowsOf(y), 0, 1, 0, 1);
        // as the first, with e (10, 4) between b and c, then told once more in another way
        BowlShelf z = Check.told(easy("a", 9, 9) + easy("b", 20, 5) + easy("c", 3, 3) + easy("d", 2, 7) + easy("e", 10, 4)
            + "nest inner < outer and low < deep;");
        Check.row("one behind them", rowsOf(z), 0, 1, 1, 0, 1);
        Check.due("told anew", Check.tell(z, lids(1, 1, 2, 2, 3)), 0);
        Check.row("rows anew", rowsOf(z), 0, 1, 0, 1, 0);
    }

    private static void rowOfOthers() {
        Check.says("NONE: others, as of rows().");
        BowlShelf x = Check.told(lids(9, 5, 5, 9));
        Check.all("others", new int[] {x.rowOf(4), x.rowOf(-1), x.rowOf(12), x.rowOf(MOST), x.rowOf(LEAST)}, -1);
        Check.row("ends", new int[] {x.rowOf(0), x.rowOf(3)}, 0, 1);
        Check.tell(x, lids(5, 5) + "nest 1;");
        Check.row("round", new int[] {x.rowOf(0), x.rowOf(1)}, -1, -1);
    }

    private static void neededHeights() {
        Check.says("STACKS needed at a height (1 to 999); NONE: others, one WARE alone is too high.");
        BowlShelf x = Check.told(lids(3, 2, 1));
        Check.row("1 to 999", new int[] {x.needed(1), x.needed(2), x.needed(998), x.needed(999)}, 3, 3, 3, 3);
        Check.all("others", new int[] {x.needed(0), x.needed(-1), x.needed(1000), x.needed(MOST), x.needed(LEAST)}, -1);
        BowlShelf none = new BowlShelf();
        Check.row("none", new int[] {none.needed(0), none.needed(1), none.needed(999), none.needed(1000)}, -1, 0, 0, -1);
    }

    private static void neededAlone() {
        Check.says("one WARE alone is too high.");
        for (int high = 0; high < 3; high++) {
            BowlShelf x = Check.told(easy("a", 9, high == 0 ? 50 : 1) + easy("b", 8, high == 1 ? 50 : 1) + easy("c", 7, high == 2 ? 50 : 1));
            Check.row("just too high, just not", new int[] {x.needed(49), x.needed(50), x.needed(52), x.needed(1)}, -1, high == 0 ? 1 : 2, 1, -1);
        }
        BowlShelf y = Check.told(easy("a", 1, 99));
        Check.row("99", new int[] {y.needed(98), y.needed(99)}, -1, 1);
    }

    private static void neededFewest() {
        Check.says("STACKS needed, at a height: the fewest into which all WARES can be parted so that each STANDS (in some order) there.");
        StringBuilder twelve = new StringBuilder();
        for (int i = 0; i < 12; i++) {
            twelve.append(Check.bowl("b" + (char) ('a' + i), 12 - i, 5, 1, 11, 0).replace(" ;", ";"));
        }
        BowlShelf x = Check.told(twelve.toString());
        // k nested ones are 4 + k high
        Check.row("by height", new int[] {x.needed(4), x.needed(5), x.needed(6), x.needed(7), x.needed(8), x.needed(9), x.needed(10),
            x.needed(15), x.needed(16), x.needed(999)}, -1, 12, 6, 4, 3, 3, 2, 2, 1, 1);
        BowlShelf y = Check.told(twelve.toString().replace("bears 11", "bears 10"));
        Check.row("the lowest bears one less", new int[] {y.needed(16), y.needed(999)}, 2, 2);
        BowlShelf z = Check.told(twelve.toString().replace("bears 11", "bears 0"));
        Check.row("none bears one", new int[] {z.needed(5), z.needed(999)}, 12, 12);
        // the shelves and what stands now are none of it
        BowlShelf v = Check.told(easy("a", 9, 5) + easy("b", 8, 5) + Check.shelf("s", 5, 0, 2));
        v.put(0, 0, NEW);
        v.put(1, 0, NEW);
        Check.row("whatever stands", new int[] {v.needed(6), v.needed(5)}, 1, 2);
    }

    private static void neededInSomeOrder() {
        Check.says("so that each STANDS (in some order) there.");
        // a fits in c alone, b in a alone: the order c, a, b is not the order by numbers
        BowlShelf x = Check.told(easy("a", 8, 5) + easy("b", 7, 5) + easy("c", 9, 5));
        Check.row("c, a, b", new int[] {x.needed(7), x.needed(6), x.needed(5)}, 1, 2, 3);
        // a part of a set that STANDS need not STAND
        BowlShelf y = Check.told(easy("a", 9, 5) + easy("b", 6, 5) + easy("c", 3, 5) + "nest inner + 3 = outer;");
        Check.row("with b between", new int[] {y.needed(7), y.needed(6)}, 1, 2);
        // the best two STACKS are not what is taken first: a bears b or c and d together
        BowlShelf z = Check.told(Check.bowl("a", 9, 1, 1, 4, 0) + Check.bowl("b", 8, 1, 4, 2, 0) + Check.bowl("c", 7, 1, 2, 2, 0)
            + Check.bowl("d", 6, 1, 2, 0, 0));
        Check.due("a with b and c with d, or a with c and d and b", z.needed(999), 2);
        BowlShelf v = Check.told(Check.bowl("a", 9, 1, 1, 3, 0) + Check.bowl("b", 8, 1, 4, 1, 0) + Check.bowl("c", 7, 1, 2, 1, 0)
            + Check.bowl("d", 6, 1, 2, 0, 0));
        Check.due("a with c or d, b with none", v.needed(999), 3);
    }

    private static void neededLaterOnesWorse() {
        Check.says("the fewest into which all WARES can be parted");
        // a bears b alone; c, b, d are a chain of which b is the middle: a with b leaves two, a alone leaves one
        BowlShelf x = Check.told(Check.bowl("a", 9, 1, 1, 1, 0) + Check.bowl("b", 6, 1, 1, 9, 0) + Check.bowl("c", 9, 1, 1, 9, 0)
            + Check.bowl("d", 3, 1, 1, 9, 0) + "nest inner + 3 = outer;");
        Check.row("a alone", new int[] {x.needed(3), x.needed(999)}, 2, 2);
        Check.row("b below", new int[] {x.sorted(1 + 2, 9, 0), x.sorted(1 + 2, 9, 1), x.sorted(2 + 4 + 8, 9, 0), x.sorted(4 + 8, 9, 0)}, 0, 1, 2, -1);
    }

    private static void sortedFirstOrder() {
        Check.says("SORTED: of a set of WARES the first order (by numbers, from below) in which they STAND.");
        BowlShelf x = Check.told("nest 1;" + easy("a", 9, 5) + easy("b", 9, 5) + easy("c", 9, 5));
        Check.row("any order", order(x, 7, 15), 0, 1, 2);
        Check.row("15 at 14", order(x, 7, 14), -1, -1, -1);
        Check.row("two", order(x, 6, 10), 1, 2);
        Check.row("one", order(x, 4, 5), 2);
        // 0 below is the first order as long as the height lets it: 3 + 8, else it lies in 1
        BowlShelf y = Check.told("nest 1;" + easy("a", 5, 3) + easy("b", 9, 8));
        Check.row("at 11", order(y, 3, 11), 0, 1);
        Check.row("at 10", order(y, 3, 10), 1, 0);
        Check.row("at 8", order(y, 3, 8), 1, 0);
        Check.row("at 7", order(y, 3, 7), -1, -1);
        // 0 and 1 are 1 high each; then 2, 3 are 3 + 6 high in 1, but 3, 2 are 6
        BowlShelf u = Check.told("nest 1;" + easy("a", 20, 1) + easy("b", 20, 1) + easy("c", 5, 3) + easy("d", 7, 6));
        Check.row("at 11", order(u, 15, 11), 0, 1, 2, 3);
        Check.row("at 10", order(u, 15, 10), 0, 1, 3, 2);
        Check.row("at 8", order(u, 15, 8), 0, 1, 3, 2);
        Check.row("at 7: 3 in 0, 2 in 3, 1 on the rim of 2", order(u, 15, 7), 0, 3, 2, 1);
        Check.row("at 6: 3 below", order(u, 15, 6), 3, 2, 0, 1);
        Check.row("at 5", order(u, 15, 5), -1, -1, -1, -1);
        // 0 below is the first order as long as it bears it
        BowlShelf z = Check.told("nest 1;" + Check.bowl("a", 5, 3, 2, 3, 0) + Check.bowl("b", 5, 3, 3, 2, 0) + Check.shelf("s", 1, 0, 1));
        Check.row("it bears 3", order(z, 3, 6), 0, 1);
        BowlShelf v = Check.told("nest 1;" + Check.bowl("a", 5, 3, 2, 2, 0) + Check.bowl("b", 5, 3, 3, 2, 0));
        Check.row("it bears 2", order(v, 3, 6), 1, 0);
        BowlShelf w = Check.told(lids(1).replace("lid a", "lid z") + "bowl a wide 9 deep 9 weight 1 bears 1 breaks 0;");
        Check.row("all that are there", order(w, 3, 9), 1, 0);
    }

    private static void sortedOthers() {
        Check.says("SORTED at a height: the i-th from below; NONE: others, they do not STAND, no such i.");
        StringBuilder twelve = new StringBuilder();
        for (int i = 0; i < 12; i++) {
            twelve.append(Check.bowl("b" + (char) ('a' + i), 12 - i, 5, 1, 11, 0).replace(" ;", ";"));
        }
        BowlShelf x = Check.told(twelve.toString());
        Check.row("all", order(x, 4095, 16), 0, 1, 2, 3, 4, 5, 6, 7, 8, 9, 10, 11);
        Check.row("the last alone", order(x, 2048, 5), 11);
        Check.all("no such set", new int[] {x.sorted(0, 16, 0), x.sorted(4096, 16, 0), x.sorted(4097, 16, 0), x.sorted(-1, 16, 0),
            x.sorted(-4096, 16, 0), x.sorted(MOST, 999, 0), x.sorted(LEAST, 999, 0), x.sorted(LEAST + 1, 999, 0)}, -1);
        Check.all("no such i", new int[] {x.sorted(4095, 16, 12), x.sorted(4095, 16, -1), x.sorted(1, 16, 1), x.sorted(2048, 16, 11),
            x.sorted(4095, 16, MOST), x.sorted(4095, 16, LEAST)}, -1);
        Check.all("no such height", new int[] {x.sorted(1, 0, 0), x.sorted(1, -1, 0), x.sorted(1, 1000, 0), x.sorted(1, MOST, 0),
            x.sorted(1, LEAST, 0)}, -1);
        Check.row("the ends of it", new int[] {x.sorted(1, 999, 0), x.sorted(1, 5, 0), x.sorted(1, 4, 0)}, 0, 0, -1);
        Check.due("height 1", Check.told(lids(1)).sorted(1, 1, 0), 0);
    }

    private static void sortedDoNotStand() {
        Check.says("NONE: others, they do not STAND, no such i.");
        BowlShelf x = Check.told(Check.bowl("a", 9, 5, 1, 1, 0) + Check.bowl("b", 8, 5, 1, 0, 0) + Check.bowl("c", 8, 5, 1, 0, 0)
            + Check.bowl("d", 7, 5, 1, 0, 0));
        Check.row("may not", order(x, 2 + 4, 99), -1, -1);
        Check.row("bears less", order(x, 1 + 2 + 8, 99), -1, -1, -1);
        Check.row("too high", order(x, 1 + 2, 5), -1, -1);
        Check.row("stands", order(x, 1 + 8, 6), 0, 3);
        BowlShelf y = Check.told(easy("a", 9, 5) + easy("b", 6, 5) + easy("c", 3, 5) + "nest inner + 3 = outer;");
        Check.row("a part of it", order(y, 1 + 4, 99), -1, -1);
        Check.row("all of it", order(y, 7, 7), 0, 1, 2);
    }

    private static void goesAllPlaces() {
        Check.says("of all shelves and STACKS (a new one behind the others) where it is not REFUSED");
        // the one that fits: first none but the last shelf, then a STACK there
        BowlShelf x = Check.told(easy("a", 9, 9) + easy("b", 8, 9) + easy("c", 8, 9) + Check.shelf("s", 8, 0, 1) + Check.shelf("t", 8, 0, 1)
            + Check.shelf("u", 8, 0, 1) + Check.shelf("v", 10, 99, 1));
        Check.row("the last shelf", new int[] {x.goes(0, 0), x.goes(0, 1), x.goes(0, 2)}, 3, 0, 0);
        Check.row("b would be below", new int[] {x.goes(1, 0), x.goes(1, 1), x.goes(1, 2)}, 3, 0, 2);
        x.put(0, 3, NEW);
        Check.row("on it", new int[] {x.goes(1, 0), x.goes(1, 1), x.goes(1, 2)}, 3, 0, 1);
        BowlShelf y = Check.told(lids(5, 5, 5, 5, 5, 5, 5, 5, 5) + Check.shelf("s", 1, 0, 8));
        for (int w = 0; w < 8; w++) {
            Check.row("a new one", new int[] {y.goes(w, 0), y.goes(w, 1), y.goes(w, 2)}, 0, w, w == 7 ? 1 : 0);
            Check.due("put", y.put(w, 0, NEW), 0);
        }
        Check.due("room for eight", y.goes(8, 1), -1);
    }

    private static void goesFewestLost() {
        Check.says("where it leaves the fewest other WARES that are OUT that could go nowhere then");
        String wares = easy("a", 9, 3) + easy("b", 9, 9);
        BowlShelf x = Check.told(wares + Check.shelf("s", 9, 0, 1) + Check.shelf("t", 3, 99, 1));
        Check.row("dearer, but none is lost", new int[] {x.goes(0, 0), x.goes(0, 1), x.goes(0, 2)}, 1, 0, 0);
        BowlShelf y = Check.told(wares + easy("c", 9, 99) + Check.shelf("s", 9, 0, 1) + Check.shelf("t", 3, 99, 1));
        Check.row("one that is lost wherever it goes", new int[] {y.goes(0, 0), y.goes(0, 2), y.goes(1, 0), y.goes(1, 2)}, 1, 1, 0, 1);
        BowlShelf z = Check.told(easy("a", 9, 5) + easy("b", 8, 5) + Check.shelf("s", 9, 0, 1));
        Check.row("b can go on a, a not on b; itself is no other", new int[] {z.goes(0, 2), z.goes(1, 2)}, 0, 1);
        z.put(0, 0, NEW);
        Check.row("those that stand are not lost", new int[] {z.goes(1, 0), z.goes(1, 2)}, 0, 0);
        // bears: a on b takes what c needs
        BowlShelf v = Check.told(Check.bowl("a", 5, 1, 1, 0, 0) + Check.bowl("b", 9, 1, 1, 3, 0) + Check.bowl("c", 8, 1, 3, 0, 0)
            + Check.shelf("s", 9, 0, 2));
        v.put(1, 0, NEW);
        Check.row("beside b or on it: c is lost in neither", new int[] {v.goes(0, 0), v.goes(0, 1), v.goes(0, 2)}, 0, 0, 0);
        BowlShelf u = Check.told(Check.bowl("a", 5, 1, 1, 0, 0) + Check.bowl("b", 9, 1, 1, 3, 0) + Check.bowl("c", 8, 1, 3, 0, 0)
            + Check.shelf("s", 9, 0, 1) + Check.shelf("t", 1, 50, 1));
        u.put(1, 0, NEW);
        Check.row("c can go to the other shelf still", new int[] {u.goes(0, 0), u.goes(0, 2)}, 0, 0);
    }

    private static void goesOfEqualOnes() {
        Check.says("of equal ones the least COST, then the first shelf, the first STACK.");
        String two = lids(5, 4);
        BowlShelf x = Check.told(two + Check.shelf("s", 9, 3, 8) + Check.shelf("t", 9, 2, 8) + Check.shelf("u", 9, 1, 8) + Check.shelf("v", 9, 0, 8));
        Check.row("the least cost", new int[] {x.goes(0, 0), x.goes(0, 1)}, 3, 0);
        BowlShelf y = Check.told(two + Check.shelf("s", 9, 3, 8) + Check.shelf("t", 9, 2, 8) + Check.shelf("u", 9, 2, 8) + Check.shelf("v", 9, 99, 8));
        Check.row("the first shelf", new int[] {y.goes(0, 0), y.goes(0, 1)}, 1, 0);
        y.put(0, 1, NEW);
        Check.row("behind a stack on which it can't stand, though a later shelf is empty", new int[] {y.goes(1, 0), y.goes(1, 1)}, 1, 1);
        // the most that a PUT can cost, where one is lost and where none is
        BowlShelf v = Check.told(Check.bowl("a", 9, 3, 99, 0, 0) + Check.bowl("b", 9, 9, 99, 0, 0) + Check.shelf("s", 9, 98, 1)
            + Check.shelf("t", 3, 99, 1) + Check.shelf("u", 2, 0, 1));
        Check.row("198 and none lost", new int[] {v.goes(0, 0), v.goes(0, 2), v.goes(1, 0), v.goes(1, 2)}, 1, 0, 0, 0);
        v.put(0, 1, NEW);
        Check.row("197", new int[] {v.goes(1, 0), v.goes(1, 2)}, 0, 0);
        BowlShelf w = Check.told(Check.bowl("a", 9, 3, 99, 0, 0) + Check.bowl("b", 9, 9, 99, 0, 0) + Check.shelf("s", 3, 99, 1)
            + Check.shelf("t", 3, 98, 1));
        Check.row("198 and 197, one lost in both", new int[] {w.goes(0, 0), w.goes(0, 2)}, 1, 1);
        BowlShelf z = Check.told(easy("a", 5, 1) + easy("b", 9, 1) + easy("c", 9, 1) + easy("d", 6, 1) + Check.shelf("s", 9, 0, 8));
        z.put(0, 0, NEW);
        z.put(1, 0, NEW);
        z.put(2, 0, NEW);
        Check.row("not on a, on b ahead of c and a new one", new int[] {z.goes(3, 0), z.goes(3, 1), z.goes(3, 2)}, 0, 1, 0);
        z.draw(1);
        Check.row("c is 1 now", new int[] {z.goes(3, 1), z.goes(1, 1)}, 1, 2);
        z.draw(2);
        Check.row("a new one is 1 now", new int[] {z.goes(3, 1), z.goes(1, 1)}, 1, 1);
    }

    private static void goesOthers() {
        Check.says("1: the STACK (as many as there are: a new one), 2: how many could go nowhere; NONE: others, it is not OUT, nowhere.");
        BowlShelf x = Check.told(lids(5, 5, 5) + Check.shelf("s", 1, 0, 2));
        Check.row("empty: 0", new int[] {x.goes(0, 0), x.goes(0, 1), x.goes(0, 2)}, 0, 0, 0);
        x.put(0, 0, NEW);
        Check.row("one is there: 1", new int[] {x.goes(1, 0), x.goes(1, 1), x.goes(1, 2)}, 0, 1, 1);
        Check.row("not out", new int[] {x.goes(0, 0), x.goes(0, 1), x.goes(0, 2)}, -1, -1, -1);
        Check.all("others", new int[] {x.goes(3, 0), x.goes(-1, 0), x.goes(MOST, 0), x.goes(LEAST, 0), x.goes(1, 3), x.goes(1, -1),
            x.goes(1, MOST), x.goes(1, LEAST)}, -1);
        Check.row("nothing is put", new int[] {x.count(3), x.shelf(0, 3), x.cost()}, 2, 1, 1);
        x.put(1, 0, NEW);
        Check.row("full: nowhere", new int[] {x.goes(2, 0), x.goes(2, 1), x.goes(2, 2)}, -1, -1, -1);
    }

    private static void goesNowhere() {
        Check.says("it is not OUT, nowhere.");
        Check.due("no shelf", Check.told(lids(5)).goes(0, 0), -1);
        BowlShelf x = Check.told(easy("a", 9, 9) + easy("b", 8, 8) + Check.shelf("s", 8, 0, 1));
        Check.row("too high", new int[] {x.goes(0, 0), x.goes(0, 2)}, -1, -1);
        Check.row("the other one can", new int[] {x.goes(1, 0), x.goes(1, 2)}, 0, 1);
        BowlShelf y = Check.told(easy("a", 9, 9) + easy("b", 8, 8) + "top a;" + Check.shelf("s", 9, 0, 1));
        y.put(0, 0, NEW);
        Check.row("nothing stands on a top", new int[] {y.goes(1, 0), y.goes(1, 1)}, -1, -1);
    }
}
