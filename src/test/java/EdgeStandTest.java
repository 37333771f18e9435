/** What MAY stand, STACKS, acts and COSTS, MARKS: each sentence of the document that names an edge, and answers due by it. */
public final class EdgeStandTest {
    private static final int NEW = BowlShelf.NONE;
    private static final int MOST = Integer.MAX_VALUE;
    private static final int LEAST = Integer.MIN_VALUE;

    private EdgeStandTest() {
    }

    public static void main(String[] args) {
        may();
        mayByNests();
        mayOthers();
        onTheOneBelow();
        bears();
        rims();
        foot();
        footOnALid();
        goneStacks();
        newStacks();
        newByNone();
        putNoSuch();
        putFirstReason();
        putRoom();
        putRefusedChanges();
        drawNoSuch();
        drawAsTheyStood();
        drawWhatIsLeft();
        drawRefusedChanges();
        carryOthers();
        carryRoomAndHeight();
        carryAsTheLast();
        carryRefusedChanges();
        costOfPut();
        costOfDraw();
        costOfCarry();
        costsAddedUp();
        whereOthers();
        atOthers();
        stackOthers();
        liftOthers();
        marks();
        marksRefused();
        marksHold();
        Check.end("EdgeStandTest");
    }

    private static String easy(String name, int wide, int deep, int weight) {
        return Check.bowl(name, wide, deep, weight, 999, 0);
    }

    /** n bowls, all as wide, 2 deep, of which each weighs one more than the one before; any order STANDS. */
    private static String bowls(int n) {
        StringBuilder text = new StringBuilder("nest 1;");
        for (int i = 0; i < n; i++) {
            text.append("bowl ").append((char) ('a' + i)).append(" wide 5 deep 2 weight ").append(i + 1).append(" bears 99 breaks 0;");
        }
        return text.toString();
    }

    /** The first n on shelf 0, all in one STACK. */
    private static BowlShelf oneStack(int n, String shelves) {
        BowlShelf x = Check.told(bowls(n) + shelves);
        for (int i = 0; i < n; i++) {
            Check.due("put " + i, x.put(i, 0, i == 0 ? NEW : 0), 0);
        }
        return x;
    }

    private static int[] stackOf(BowlShelf x, int shelf, int stack) {
        int[] wares = new int[Math.max(0, x.stack(shelf, stack, 0))];
        for (int i = 0; i < wares.length; i++) {
            wares[i] = x.at(shelf, stack, i);
        }
        return wares;
    }

    private static void may() {
        Check.says("A WARE MAY stand on another one if that is none told as top");
        BowlShelf x = Check.told(easy("a", 9, 1, 1) + easy("b", 8, 1, 1) + easy("c", 7, 1, 1) + "top b;" + Check.shelf("s", 99, 0, 3));
        Check.row("b is top", new int[] {x.may(2, 1), x.may(1, 0), x.may(2, 0)}, 0, 1, 1);
        x.put(1, 0, NEW);
        Check.due("nothing on it", x.put(2, 0, 0), 4);
        x.put(0, 0, NEW);
        x.draw(1);
        Check.due("it on another one", x.put(1, 0, 0), 0);
        Check.due("nothing on it there", x.put(2, 0, 0), 4);
        BowlShelf y = Check.told("nest 1;" + easy("a", 9, 1, 1) + easy("b", 8, 1, 1) + "top b; top a;");
        Check.row("whatever the nest", new int[] {y.may(0, 1), y.may(1, 0)}, 0, 0);
    }

    private static void mayByNests() {
        Check.says("and of no nest's E comes 0 (without a nest: if it is less wide).");
        BowlShelf x = Check.told(easy("a", 9, 1, 1) + easy("b", 8, 1, 1) + easy("c", 8, 1, 1));
        Check.row("less wide, as wide, wider", new int[] {x.may(1, 0), x.may(2, 1), x.may(1, 2), x.may(0, 1)}, 1, 0, 0, 0);
        String two = easy("a", 9, 1, 1) + easy("b", 8, 1, 1);
        for (int zero = 0; zero < 5; zero++) {
            StringBuilder nests = new StringBuilder();
            for (int i = 0; i < 4; i++) {
                nests.append(i == zero ? "nest inner - inner;" : "nest 0 - 1;");
            }
            BowlShelf y = Check.told(two + nests);
            Check.row("0 of nest " + zero, new int[] {y.may(0, 1), y.may(1, 0)}, zero == 4 ? 1 : 0, zero == 4 ? 1 : 0);
        }
        BowlShelf z = Check.told(two + "nest outer < inner + 1;");
        Check.row("by the nest, though it is wider", new int[] {z.may(0, 1), z.may(1, 0)}, 1, 0);
    }

    private static void mayOthers() {
        Check.says("Whether one MAY stand on another one: 1 or 0; NONE: others, the same.");
        BowlShelf x = Check.told(bowls(12));
        Check.row("ends", new int[] {x.may(0, 11), x.may(11, 0)}, 1, 1);
        Check.all("others", new int[] {x.may(12, 0), x.may(0, 12), x.may(-1, 0), x.may(0, -1), x.may(MOST, 0), x.may(0, LEAST),
            x.may(32, 0), x.may(0, 32)}, -1);
        for (int w = 0; w < 12; w++) {
            Check.due("the same", x.may(w, w), -1);
        }
    }

    private static void onTheOneBelow() {
        Check.says("It STANDS at a height if each MAY stand on the one below");
        // 1 MAY stand on 0, 2 on 1, but 2 not on 0 and 0 on none
        BowlShelf x = Check.told(easy("a", 9, 5, 1) + easy("b", 6, 5, 1) + easy("c", 3, 5, 1) + "nest inner + 3 = outer;" + Check.shelf("s", 99, 0, 3));
        Check.due("the first one is on the shelf", x.put(0, 0, NEW), 0);
        Check.row("the one below alone is asked for", new int[] {x.put(2, 0, 0), x.put(1, 0, 0), x.put(2, 0, 0)}, 4, 0, 0);
        Check.row("sets", new int[] {x.sorted(7, 99, 2), x.sorted(5, 99, 0), x.sorted(6, 99, 1)}, 2, -1, 2);
    }

    private static void bears() {
        Check.says("none has more weight above it than it bears");
        BowlShelf x = Check.told(Check.bowl("a", 9, 1, 9, 5, 0) + Check.bowl("b", 8, 1, 2, 3, 0) + Check.bowl("c", 7, 1, 3, 0, 0)
            + Check.bowl("d", 7, 1, 4, 0, 0) + Check.bowl("e", 6, 1, 1, 0, 0) + Check.shelf("s", 99, 0, 8));
        Check.due("bears 5, nothing above", x.put(0, 0, NEW), 0);
        Check.due("2 on it", x.put(1, 0, 0), 0);
        Check.due("b bears 3, a 2 and 4 are too many", x.put(3, 0, 0), 5);
        Check.due("b bears 3, a 2 and 3", x.put(2, 0, 0), 0);
        Check.due("c bears 0", x.put(4, 0, 0), 5);
        Check.due("what bears 0 stands alone", x.put(4, 0, NEW), 0);
        // the one below has what it bears, the one at the bottom more
        BowlShelf y = Check.told(Check.bowl("a", 9, 1, 9, 4, 0) + Check.bowl("b", 8, 1, 2, 3, 0) + Check.bowl("c", 7, 1, 3, 0, 0)
            + Check.shelf("s", 99, 0, 8));
        y.put(0, 0, NEW);
        y.put(1, 0, 0);
        Check.due("a bears 4, not 2 and 3", y.put(2, 0, 0), 5);
        BowlShelf z = Check.told("nest 1;" + Check.bowl("a", 9, 1, 9, 999, 0) + Check.bowl("b", 9, 1, 99, 998, 0) + Check.lid("c", 9, 1, 0)
            + Check.lid("d", 9, 1, 0) + Check.shelf("s", 99, 0, 8));
        z.put(0, 0, NEW);
        z.put(1, 0, 0);
        z.put(2, 0, 0);
        Check.due("a lid bears 0", z.put(3, 0, 0), 5);
    }

    private static void rims() {
        Check.says("no RIM is above the height");
        BowlShelf x = Check.told(easy("a", 9, 10, 1) + easy("b", 8, 8, 1) + easy("c", 7, 8, 1) + easy("d", 6, 8, 1)
            + Check.shelf("s", 10, 0, 1) + Check.shelf("t", 9, 0, 1) + Check.shelf("u", 1, 0, 1));
        Check.due("10 at 9", x.put(0, 1, NEW), 6);
        Check.due("10 at 10", x.put(0, 0, NEW), 0);
        Check.due("1 + 8", x.put(1, 0, 0), 0);
        Check.due("2 + 8", x.put(2, 0, 0), 0);
        Check.due("3 + 8", x.put(3, 0, 0), 6);
        Check.due("8 at 1", x.put(3, 2, NEW), 6);
        Check.due("the highest one", x.stack(0, 0, 1), 10);
        BowlShelf y = Check.told(Check.lid("a", 1, 1, 0) + Check.bowl("b", 1, 99, 1, 0, 0) + Check.shelf("s", 1, 0, 1)
            + Check.shelf("t", 98, 0, 1) + Check.shelf("u", 99, 0, 1));
        Check.row("a lid at 1, 99 at 98 and at 99", new int[] {y.put(0, 0, NEW), y.put(1, 1, NEW), y.put(1, 2, NEW)}, 0, 6, 0);
    }

    private static void foot() {
        Check.says("FOOT of the first one 0; of another one: if it is less wide than the one below, and that is no lid, "
            + "its FOOT and 1, else its RIM");
        BowlShelf x = Check.told("nest 1;" + easy("a", 9, 5, 1) + easy("b", 8, 3, 1) + easy("c", 8, 4, 1) + easy("d", 9, 2, 1)
            + Check.lid("e", 8, 1, 0) + Check.shelf("s", 99, 0, 1));
        for (int w = 0; w < 5; w++) {
            Check.due("put", x.put(w, 0, w == 0 ? NEW : 0), 0);
        }
        // b in a; c as wide as b, on its rim; d wider than c, on its rim; the lid in d
        Check.row("feet", new int[] {x.where(0, 4), x.where(1, 4), x.where(2, 4), x.where(3, 4), x.where(4, 4)}, 0, 1, 4, 8, 9);
        Check.due("the highest rim", x.stack(0, 0, 1), 10);
        Check.due("the first one is drawn", x.draw(0), 0);
        Check.row("feet then", new int[] {x.where(1, 4), x.where(2, 4), x.where(3, 4), x.where(4, 4)}, 0, 3, 7, 8);
    }

    private static void footOnALid() {
        Check.says("and that is no lid");
        // a lid bears 0, so that nothing can stand on one: the height of two must not matter
        BowlShelf x = Check.told("nest 1;" + Check.lid("a", 9, 1, 0) + easy("b", 8, 5, 1) + Check.shelf("s", 6, 0, 1) + Check.shelf("t", 5, 0, 1));
        x.put(0, 0, NEW);
        Check.row("5 ahead of 6", new int[] {x.put(1, 0, 0), x.draw(0), x.put(0, 1, NEW), x.put(1, 1, 0)}, 5, 0, 0, 5);
        Check.row("b must be below", new int[] {x.sorted(3, 99, 0), x.needed(99)}, 1, 1);
        Check.row("on its rim", new int[] {x.sorted(3, 5, 0), x.sorted(3, 5, 1), x.sorted(3, 6, 0)}, -1, -1, 1);
    }

    private static void goneStacks() {
        Check.says("STACKS of a shelf are numbered from 0; when one has no WARE any more it is gone and those behind come one ahead.");
        BowlShelf x = Check.told(bowls(8) + Check.shelf("s", 9, 0, 8) + Check.shelf("t", 9, 0, 8));
        for (int w = 0; w < 8; w++) {
            Check.row("put, its stack", new int[] {x.put(w, 0, NEW), x.where(w, 1)}, 0, w);
        }
        Check.due("draw the first", x.draw(0), 0);
        for (int w = 1; w < 8; w++) {
            Check.due("one ahead", x.where(w, 1), w - 1);
        }
        Check.due("draw the last", x.draw(7), 0);
        Check.row("the others stay", new int[] {x.where(1, 1), x.where(6, 1), x.shelf(0, 3)}, 0, 5, 6);
        Check.due("carry one off the middle", x.carry(0, 2, 1), 0);
        Check.row("ahead of it, behind it", new int[] {x.where(2, 1), x.where(4, 1), x.where(6, 1), x.shelf(0, 3)}, 1, 2, 4, 5);
        Check.due("a ware in one that goes ahead", x.put(0, 0, 4), 0);
        Check.due("draw", x.draw(1), 0);
        Check.row("both come", new int[] {x.where(6, 1), x.where(0, 1), x.at(0, 3, 1)}, 3, 3, 0);
        Check.due("it has one still", x.draw(6), 0);
        Check.row("so it is there", new int[] {x.where(0, 1), x.where(0, 2), x.shelf(0, 3)}, 3, 0, 4);
        for (int w : new int[] {0, 2, 4, 5}) {
            x.draw(w);
        }
        Check.row("none", new int[] {x.shelf(0, 3), x.shelf(1, 3), x.at(0, 0, 0), x.stack(0, 0, 0)}, 0, 1, -1, -1);
    }

    private static void newStacks() {
        Check.says("A new one is the last.");
        BowlShelf x = Check.told(bowls(4) + Check.shelf("s", 9, 0, 8));
        x.put(3, 0, NEW);
        x.put(1, 0, NEW);
        x.put(0, 0, NEW);
        Check.row("as put", new int[] {x.where(3, 1), x.where(1, 1), x.where(0, 1)}, 0, 1, 2);
        x.draw(3);
        x.put(3, 0, NEW);
        Check.row("behind the others", new int[] {x.where(1, 1), x.where(0, 1), x.where(3, 1)}, 0, 1, 2);
    }

    private static void newByNone() {
        Check.says("PUT on a STACK (NONE: a new one): 0, or why it is REFUSED.");
        BowlShelf x = Check.told(bowls(4) + Check.shelf("s", 9, 0, 8));
        Check.all("no stack is there", new int[] {x.put(0, 0, 0), x.put(0, 0, 1), x.put(0, 0, -2), x.put(0, 0, LEAST), x.put(0, 0, MOST)}, 1);
        Check.due("new", x.put(0, 0, NEW), 0);
        Check.due("as many as there are is none", x.put(1, 0, 1), 1);
        Check.due("on it", x.put(1, 0, 0), 0);
        Check.due("a new one beside it", x.put(2, 0, NEW), 0);
        Check.row("on the last", new int[] {x.put(3, 0, 2), x.put(3, 0, 1)}, 1, 0);
    }

    private static void putNoSuch() {
        Check.says("1 no such WARE, shelf or STACK");
        BowlShelf x = oneStack(11, Check.shelf("s", 99, 0, 8) + Check.shelf("t", 9, 0, 8));
        Check.all("ware", new int[] {x.put(11, 0, 0), x.put(-1, 0, 0), x.put(MOST, 0, 0), x.put(LEAST, 0, NEW), x.put(11, 0, NEW)}, 1);
        x.draw(0);
        Check.all("shelf", new int[] {x.put(0, 2, NEW), x.put(0, -1, NEW), x.put(0, MOST, NEW), x.put(0, LEAST, 0)}, 1);
        Check.all("stack", new int[] {x.put(0, 0, 1), x.put(0, 1, 0), x.put(0, 0, -2), x.put(0, 0, MOST)}, 1);
        Check.due("all as it was", x.count(3), 1);
    }

    private static void putFirstReason() {
        Check.says("REFUSED, the first of: 1 no such WARE, shelf or STACK, 2 the WARE is not OUT, "
            + "3 the shelf has as many STACKS as its room (new), 4 it MAY not stand there, 5 one bears less, 6 a RIM is too high.");
        BowlShelf x = Check.told(Check.bowl("a", 9, 5, 5, 0, 0) + Check.bowl("b", 9, 9, 5, 0, 0) + Check.bowl("c", 8, 9, 5, 0, 0)
            + Check.bowl("d", 8, 4, 5, 0, 0) + Check.shelf("s", 5, 0, 1) + Check.shelf("t", 8, 0, 2));
        Check.due("in", x.put(0, 0, NEW), 0);
        Check.row("1 ahead of 2", new int[] {x.put(0, 2, NEW), x.put(0, 0, 1), x.put(0, 1, 0)}, 1, 1, 1);
        Check.row("2 ahead of 3 and 4", new int[] {x.put(0, 0, NEW), x.put(0, 0, 0)}, 2, 2);
        Check.due("3 ahead of 6", x.put(1, 0, NEW), 3);
        Check.due("4 ahead of 5 and 6", x.put(1, 0, 0), 4);
        Check.due("5 ahead of 6", x.put(2, 0, 0), 5);
        Check.due("5 alone", x.put(3, 0, 0), 5);
        Check.row("6 of a new one", new int[] {x.put(1, 1, NEW), x.put(2, 1, NEW)}, 6, 6);
        BowlShelf y = Check.told(easy("a", 9, 5, 5) + easy("b", 8, 5, 5) + Check.shelf("s", 5, 0, 1));
        y.put(0, 0, NEW);
        Check.row("6 on another one; no room", new int[] {y.put(1, 0, 0), y.put(1, 0, NEW)}, 6, 3);
    }

    private static void putRoom() {
        Check.says("3 the shelf has as many STACKS as its room (new)");
        for (int room = 1; room <= 8; room++) {
            BowlShelf x = Check.told(bowls(10) + Check.shelf("s", 9, 0, room) + Check.shelf("t", 9, 0, 1));
            for (int w = 0; w < room; w++) {
                Check.due("room", x.put(w, 0, NEW), 0);
            }
            Check.due("full", x.put(room, 0, NEW), 3);
            Check.due("not for one that is there", x.put(room, 0, room - 1), 0);
            Check.due("still full", x.put(room + 1, 0, NEW), 3);
            Check.row("a stack of two stays", new int[] {x.draw(room), x.put(room, 0, NEW)}, 0, 3);
            Check.row("one gone is room", new int[] {x.draw(0), x.put(room, 0, NEW)}, 0, 0);
            Check.due("another shelf", x.put(0, 1, NEW), 0);
        }
    }

    private static void putRefusedChanges() {
        Check.says("All COSTS of acts that were not REFUSED are added up.");
        BowlShelf x = Check.told(Check.bowl("a", 9, 5, 5, 0, 0) + Check.bowl("b", 8, 5, 5, 0, 0) + Check.bowl("c", 9, 6, 5, 0, 0)
            + Check.shelf("s", 5, 7, 1));
        x.put(0, 0, NEW);
        Check.all("cost", new int[] {x.cost()}, 12);
        Check.row("refused", new int[] {x.put(3, 0, 0), x.put(0, 0, 0), x.put(1, 0, NEW), x.put(2, 0, 0), x.put(1, 0, 0)}, 1, 2, 3, 4, 5);
        Check.row("all as it was", new int[] {x.cost(), x.count(3), x.shelf(0, 3), x.stack(0, 0, 0), x.where(1, 0)}, 12, 2, 1, 1, -1);
        Check.row("6", new int[] {x.draw(0), x.put(2, 0, NEW), x.cost(), x.shelf(0, 3)}, 0, 6, 24, 0);
    }

    private static void drawNoSuch() {
        Check.says("REFUSED: 1 no such one, 2 it is OUT");
        BowlShelf x = oneStack(2, Check.shelf("s", 9, 0, 8));
        Check.all("no such", new int[] {x.draw(2), x.draw(-1), x.draw(MOST), x.draw(LEAST), x.draw(12)}, 1);
        Check.row("out then", new int[] {x.draw(1), x.draw(1), x.draw(0), x.draw(0)}, 0, 2, 0, 2);
        Check.due("all out", x.count(3), 2);
    }

    private static void drawAsTheyStood() {
        Check.says("those above it stand on the one below it, as they stood.");
        BowlShelf x = oneStack(6, Check.shelf("s", 99, 0, 8));
        Check.due("from the middle", x.draw(2), 0);
        Check.row("left", stackOf(x, 0, 0), 0, 1, 3, 4, 5);
        Check.due("the first one", x.draw(0), 0);
        Check.row("left", stackOf(x, 0, 0), 1, 3, 4, 5);
        Check.due("the last one", x.draw(5), 0);
        Check.row("left", stackOf(x, 0, 0), 1, 3, 4);
        Check.row("where 4 is", new int[] {x.where(4, 2), x.where(4, 3), x.where(4, 4)}, 2, 0, 4);
        Check.row("again on top", new int[] {x.put(0, 0, 0), x.where(0, 2)}, 0, 3);
    }

    private static void drawWhatIsLeft() {
        Check.says("4, 5, 6 what is left does not STAND (the first that is so).");
        // c may not stand on a, and would be too high there
        String wares = easy("a", 9, 8, 1) + easy("b", 8, 2, 1) + easy("c", 20, 6, 1);
        BowlShelf x = Check.told(wares + "nest not(inner = 20 and outer = 9);" + Check.shelf("s", 9, 0, 1));
        Check.row("stands", new int[] {x.put(0, 0, NEW), x.put(1, 0, 0), x.put(2, 0, 0)}, 0, 0, 0);
        Check.row("4 ahead of 6", new int[] {x.draw(1), x.where(1, 2)}, 4, 1);
        BowlShelf y = Check.told(wares + "nest 1;" + Check.shelf("s", 9, 0, 1) + Check.shelf("t", 14, 0, 1));
        Check.row("stands", new int[] {y.put(0, 0, NEW), y.put(1, 0, 0), y.put(2, 0, 0)}, 0, 0, 0);
        Check.row("8 and 6 are above 9", new int[] {y.draw(1), y.where(2, 4)}, 6, 3);
        Check.row("8 and 6 at 14", new int[] {y.carry(0, 0, 1), y.draw(1), y.where(2, 4), y.stack(1, 0, 1)}, 0, 0, 8, 14);
        // of what is left, what stands above the next one does not count anew: the lowest goes freely
        BowlShelf z = Check.told(wares + "nest not(inner = 20 and outer = 9);" + Check.shelf("s", 9, 0, 1));
        z.put(0, 0, NEW);
        z.put(1, 0, 0);
        z.put(2, 0, 0);
        Check.row("the lowest, then the next", new int[] {z.draw(0), z.draw(1), z.draw(2), z.shelf(0, 3)}, 0, 0, 0, 0);
    }

    private static void drawRefusedChanges() {
        Check.says("DRAWN: 0, or why it is REFUSED.");
        BowlShelf x = Check.told(easy("a", 9, 5, 1) + easy("b", 6, 5, 1) + easy("c", 3, 5, 1)
            + "nest inner < outer and outer < inner + 4;" + Check.shelf("s", 99, 5, 1));
        x.put(0, 0, NEW);
        x.put(1, 0, 0);
        x.put(2, 0, 0);
        int before = x.cost();
        Check.row("refused", new int[] {x.draw(1), x.draw(3), x.draw(1)}, 4, 1, 4);
        Check.row("all as it was", new int[] {x.cost() - before, x.count(3), x.at(0, 0, 1), x.where(2, 2)}, 0, 0, 1, 2);
        Check.row("not refused", new int[] {x.draw(2), x.draw(1), x.draw(0)}, 0, 0, 0);
    }

    private static void carryOthers() {
        Check.says("CARRIED: a STACK goes to another shelf as its last one: 1 others, 3, 6.");
        BowlShelf x = oneStack(2, Check.shelf("s", 9, 0, 8) + Check.shelf("t", 9, 0, 8));
        Check.all("others", new int[] {x.carry(0, 0, 0), x.carry(0, 1, 1), x.carry(0, -1, 1), x.carry(1, 0, 0), x.carry(2, 0, 0),
            x.carry(-1, 0, 0), x.carry(0, 0, 2), x.carry(0, 0, -1), x.carry(MOST, 0, 1), x.carry(0, MOST, 1), x.carry(0, 0, MOST),
            x.carry(LEAST, 0, 1), x.carry(0, LEAST, 1), x.carry(0, 0, LEAST), x.carry(1, 0, 1)}, 1);
        Check.row("all as it was", new int[] {x.shelf(0, 3), x.shelf(1, 3), x.cost()}, 1, 0, 3);
        Check.row("there and back", new int[] {x.carry(0, 0, 1), x.carry(0, 0, 1), x.carry(1, 0, 0)}, 0, 1, 0);
        // the same shelf is 1 though it is full, no shelf is 1 though the STACK is too high
        BowlShelf y = oneStack(1, Check.shelf("s", 2, 0, 1));
        Check.row("1 ahead of 3", new int[] {y.carry(0, 0, 0), y.carry(0, 0, 1)}, 1, 1);
    }

    private static void carryRoomAndHeight() {
        Check.says("as its last one: 1 others, 3, 6.");
        BowlShelf x = oneStack(3, Check.shelf("s", 9, 0, 8) + Check.shelf("t", 5, 0, 1) + Check.shelf("u", 6, 0, 1));
        Check.due("6 at 5", x.carry(0, 0, 1), 6);
        Check.due("6 at 6", x.carry(0, 0, 2), 0);
        Check.due("back", x.carry(2, 0, 0), 0);
        Check.due("one off", x.draw(2), 0);
        Check.row("it fills a shelf", new int[] {x.put(2, 1, NEW), x.put(2, 1, NEW)}, 0, 2);
        Check.due("3: no room, though 4 would stand at 5", x.carry(0, 0, 1), 3);
        BowlShelf y = Check.told(bowls(3) + Check.shelf("s", 9, 0, 2) + Check.shelf("t", 2, 0, 1));
        Check.row("two, one", new int[] {y.put(0, 0, NEW), y.put(1, 0, 0), y.put(2, 1, NEW)}, 0, 0, 0);
        Check.due("3 ahead of 6", y.carry(0, 0, 1), 3);
        Check.row("room again", new int[] {y.draw(2), y.carry(0, 0, 1), y.draw(1), y.carry(0, 0, 1)}, 0, 6, 0, 0);
        Check.due("a law is not asked for: as it stood", y.at(1, 0, 0), 0);
    }

    private static void carryAsTheLast() {
        Check.says("a STACK goes to another shelf as its last one");
        BowlShelf x = Check.told(bowls(9) + Check.shelf("s", 9, 0, 8) + Check.shelf("t", 9, 0, 8));
        for (int w = 0; w < 7; w++) {
            x.put(w, 1, NEW);
        }
        x.put(7, 0, NEW);
        x.put(8, 0, 0);
        Check.due("the eighth", x.carry(0, 0, 1), 0);
        Check.row("it is the last", new int[] {x.where(7, 0), x.where(7, 1), x.where(8, 1), x.where(8, 2), x.shelf(1, 3), x.shelf(0, 3)}, 1, 7, 7, 1, 8, 0);
        Check.row("the others stay", new int[] {x.where(0, 1), x.where(6, 1)}, 0, 6);
        Check.row("the first of eight goes", new int[] {x.carry(1, 0, 0), x.where(0, 0), x.where(0, 1), x.where(7, 1)}, 0, 0, 0, 6);
    }

    private static void carryRefusedChanges() {
        Check.says("CARRIED: 0, or why it is REFUSED.");
        BowlShelf x = oneStack(3, Check.shelf("s", 9, 5, 8) + Check.shelf("t", 5, 5, 1) + Check.shelf("u", 9, 5, 1));
        Check.row("one off", new int[] {x.draw(0), x.put(0, 2, NEW), x.put(0, 2, 0)}, 0, 0, 2);
        int before = x.cost();
        Check.row("refused", new int[] {x.carry(0, 1, 1), x.carry(0, 0, 2), x.carry(0, 0, 3), x.carry(0, 0, 0)}, 1, 3, 1, 1);
        Check.row("all as it was", new int[] {x.cost() - before, x.shelf(0, 3), x.shelf(1, 3), x.shelf(2, 3), x.where(2, 2)}, 0, 1, 0, 1, 1);
        Check.row("carried: 2 * 5 and 2 * 10", new int[] {x.carry(0, 0, 1), x.cost() - before, x.shelf(0, 3)}, 0, 30, 0);
        Check.row("6", new int[] {x.draw(0), x.put(0, 1, 0), x.carry(1, 0, 2)}, 0, 6, 0);
        Check.row("it is higher than t then", new int[] {x.put(0, 2, 0), x.carry(2, 0, 1), x.where(0, 0), x.carry(2, 0, 0)}, 0, 6, 2, 0);
    }

    private static void costOfPut() {
        Check.says("each WARE that is lifted costs its weight and the shelf's reach: PUT once");
        BowlShelf x = Check.told(easy("a", 9, 5, 99) + easy("b", 8, 5, 1) + Check.shelf("s", 99, 99, 8) + Check.shelf("t", 99, 0, 8));
        Check.row("the most", new int[] {x.put(0, 0, NEW), x.cost()}, 0, 198);
        Check.row("the least", new int[] {x.put(1, 1, NEW), x.cost()}, 0, 199);
        Check.row("on top costs the same", new int[] {x.draw(1), x.put(1, 0, 0), x.cost()}, 0, 0, 199 + 1 + 100);
    }

    private static void costOfDraw() {
        Check.says("DRAWN: it once, each above it twice");
        BowlShelf x = oneStack(12, Check.shelf("s", 24, 9, 1));
        int before = x.cost();
        Check.due("put: 78 and 12 * 9", before, 78 + 108);
        Check.row("the top one", new int[] {x.draw(11), x.cost() - before}, 0, 12 + 9);
        before = x.cost();
        // it weighs 1, the ten above 2 to 11
        Check.row("the first one", new int[] {x.draw(0), x.cost() - before}, 0, 10 + 2 * (65 + 90));
        before = x.cost();
        Check.row("the one below the top", new int[] {x.draw(9), x.cost() - before}, 0, 19 + 2 * 20);
    }

    private static void costOfCarry() {
        Check.says("CARRIED: each WARE by both shelves (its weight twice).");
        BowlShelf x = oneStack(3, Check.shelf("s", 9, 7, 1) + Check.shelf("t", 9, 2, 1) + Check.shelf("u", 9, 0, 1));
        int before = x.cost();
        Check.row("2 * 6 and 3 * 9", new int[] {x.carry(0, 0, 1), x.cost() - before}, 0, 39);
        before = x.cost();
        Check.row("2 * 6 and 3 * 2", new int[] {x.carry(1, 0, 2), x.cost() - before}, 0, 18);
        before = x.cost();
        Check.row("refused", new int[] {x.carry(2, 0, 2), x.carry(2, 1, 0), x.cost() - before}, 1, 1, 0);
    }

    private static void costsAddedUp() {
        Check.says("All COSTS.");
        BowlShelf x = new BowlShelf();
        Check.due("none yet", x.cost(), 0);
        Check.tell(x, bowls(2) + Check.shelf("s", 9, 1, 1) + Check.shelf("t", 2, 0, 1));
        Check.due("telling costs nothing", x.cost(), 0);
        Check.row("acts", new int[] {x.put(0, 0, NEW), x.cost(), x.put(1, 0, 0), x.cost()}, 0, 2, 0, 5);
        Check.row("refused", new int[] {x.carry(0, 0, 1), x.put(1, 0, 0), x.draw(2), x.cost()}, 6, 2, 1, 5);
        x.ask(0);
        Check.row("askings and looks", new int[] {x.asked(), x.onTop(), x.lift(0), x.goes(0, 0), x.best(0, 0, 0), x.cost()}, 8, 8, 8, -1, 2, 5);
        Check.row("back to nothing out", new int[] {x.draw(0), x.cost(), x.draw(1), x.cost()}, 0, 13, 0, 16);
        Check.row("cost() changes nothing", new int[] {x.cost(), x.cost()}, 16, 16);
    }

    private static void whereOthers() {
        Check.says("3: above it, 4: its FOOT; NONE: others, it is OUT.");
        BowlShelf x = oneStack(12, Check.shelf("s", 24, 9, 1));
        Check.row("first", new int[] {x.where(0, 0), x.where(0, 1), x.where(0, 2), x.where(0, 3), x.where(0, 4)}, 0, 0, 0, 11, 0);
        Check.row("last", new int[] {x.where(11, 0), x.where(11, 1), x.where(11, 2), x.where(11, 3), x.where(11, 4)}, 0, 0, 11, 0, 22);
        Check.all("others", new int[] {x.where(12, 0), x.where(-1, 0), x.where(MOST, 0), x.where(LEAST, 0), x.where(0, 5), x.where(0, -1),
            x.where(0, MOST), x.where(0, LEAST)}, -1);
        x.draw(5);
        for (int what = 0; what < 5; what++) {
            Check.due("out", x.where(5, what), -1);
        }
        Check.row("those above come down", new int[] {x.where(6, 2), x.where(6, 3), x.where(6, 4)}, 5, 5, 10);
    }

    private static void atOthers() {
        Check.says("The i-th WARE from below of a STACK; NONE: others.");
        BowlShelf x = oneStack(12, Check.shelf("s", 24, 9, 1) + Check.shelf("t", 24, 9, 1));
        Check.row("from below", stackOf(x, 0, 0), 0, 1, 2, 3, 4, 5, 6, 7, 8, 9, 10, 11);
        Check.all("others", new int[] {x.at(0, 0, 12), x.at(0, 0, -1), x.at(0, 0, MOST), x.at(0, 0, LEAST), x.at(0, 1, 0), x.at(0, -1, 0),
            x.at(1, 0, 0), x.at(2, 0, 0), x.at(-1, 0, 0), x.at(-1, -1, -1), x.at(MOST, MOST, MOST), x.at(LEAST, LEAST, LEAST)}, -1);
        BowlShelf y = Check.told(bowls(1) + Check.shelf("s", 24, 9, 1));
        Check.due("no stack", y.at(0, 0, 0), -1);
    }

    private static void stackOthers() {
        Check.says("1: its highest RIM, 2: all weights; NONE: others.");
        BowlShelf x = oneStack(12, Check.shelf("s", 24, 9, 1) + Check.shelf("t", 24, 9, 1));
        Check.row("all", new int[] {x.stack(0, 0, 0), x.stack(0, 0, 1), x.stack(0, 0, 2)}, 12, 24, 78);
        Check.all("others", new int[] {x.stack(0, 0, 3), x.stack(0, 0, -1), x.stack(0, 0, MOST), x.stack(0, 1, 0), x.stack(0, -1, 0),
            x.stack(1, 0, 0), x.stack(2, 0, 0), x.stack(-1, 0, 0), x.stack(-1, 0, 2), x.stack(LEAST, LEAST, 0)}, -1);
        BowlShelf y = Check.told(easy("a", 9, 9, 3) + easy("b", 8, 2, 4) + Check.shelf("s", 24, 9, 1));
        y.put(0, 0, NEW);
        y.put(1, 0, 0);
        Check.row("of the lower one", new int[] {y.stack(0, 0, 0), y.stack(0, 0, 1), y.stack(0, 0, 2)}, 2, 9, 7);
    }

    private static void liftOthers() {
        Check.says("What DRAWING a WARE would cost (REFUSED or not); NONE: others, it is OUT.");
        BowlShelf x = Check.told(easy("a", 9, 5, 1) + easy("b", 6, 5, 2) + easy("c", 3, 5, 4)
            + "nest inner < outer and outer < inner + 4;" + Check.shelf("s", 99, 5, 1));
        Check.row("out", new int[] {x.lift(0), x.lift(1), x.lift(2)}, -1, -1, -1);
        x.put(0, 0, NEW);
        x.put(1, 0, 0);
        x.put(2, 0, 0);
        int before = x.cost();
        Check.row("lifts", new int[] {x.lift(0), x.lift(1), x.lift(2)}, 6 + 2 * (7 + 9), 7 + 2 * 9, 9);
        Check.row("refused, but it would cost", new int[] {x.draw(1), x.lift(1), x.cost() - before}, 4, 25, 0);
        Check.all("others", new int[] {x.lift(3), x.lift(-1), x.lift(MOST), x.lift(LEAST)}, -1);
        Check.row("out", new int[] {x.draw(2), x.lift(2), x.lift(1)}, 0, -1, 7);
    }

    private static void marks() {
        Check.says("A MARK is laid (back: gone back to): true; false: none such, nothing is on it (back).");
        BowlShelf x = oneStack(2, Check.shelf("s", 9, 0, 8));
        for (int mark = 0; mark < 4; mark++) {
            Check.due("nothing is on it", x.mark(mark, true), false);
            Check.due("laid", x.mark(mark, false), true);
            Check.due("gone back to", x.mark(mark, true), true);
            Check.due("and once more", x.mark(mark, true), true);
        }
        for (int mark : new int[] {-1, 4, 5, MOST, LEAST}) {
            Check.due("none such", x.mark(mark, false), false);
            Check.due("none such", x.mark(mark, true), false);
        }
    }

    private static void marksRefused() {
        Check.says("false: none such, nothing is on it (back).");
        BowlShelf x = oneStack(2, Check.shelf("s", 9, 0, 8));
        x.ask(1);
        x.mark(1, false);
        x.draw(1);
        Check.due("none such", x.mark(4, true), false);
        Check.due("nothing is on it", x.mark(0, true), false);
        Check.row("all stays", new int[] {x.count(3), x.cost(), x.count(4)}, 1, 5, 1);
        Check.due("none such", x.mark(4, false), false);
        Check.due("the one that is laid", x.mark(1, true), true);
        Check.row("back", new int[] {x.count(3), x.cost(), x.count(4)}, 0, 3, 1);
    }

    private static void marksHold() {
        Check.says("MARKS 0 to 3 hold how all stands, COSTS, ASKINGS.");
        BowlShelf x = Check.told(bowls(4) + Check.shelf("s", 9, 1, 8) + Check.shelf("t", 9, 2, 8));
        for (int w = 0; w < 4; w++) {
            x.mark(w, false);
            x.put(w, w % 2, NEW);
            x.ask(w);
        }
        int[] costs = {0, 2, 6, 10};
        for (int w = 3; w >= 0; w--) {
            Check.due("back", x.mark(w, true), true);
            Check.row("as it was", new int[] {x.count(3), x.cost(), x.count(4), x.where(w, 0)}, 4 - w, costs[w], w, -1);
        }
        Check.due("forth", x.mark(3, true), true);
        Check.row("as it was", new int[] {x.count(3), x.cost(), x.count(4), x.where(2, 1), x.asked()}, 1, 10, 3, 1, 2 + 4 + 4);
        x.clear();
        x.carry(0, 0, 1);
        Check.due("laid over", x.mark(3, false), true);
        x.draw(0);
        x.ask(3);
        Check.due("back", x.mark(3, true), true);
        Check.row("the later one", new int[] {x.where(0, 0), x.where(0, 1), x.count(4), x.cost()}, 1, 1, 0, 10 + 2 + 3);
        for (int n = 0; n < 30; n++) {
            x.ask(0);
        }
        x.mark(0, false);
        x.clear();
        x.mark(0, true);
        Check.row("thirty askings", new int[] {x.count(4), x.ask(0)}, 30, -1);
        // what comes ahead when a STACK is gone goes behind again
        BowlShelf y = Check.told(bowls(3) + Check.shelf("s", 9, 1, 8) + Check.shelf("t", 9, 2, 8));
        y.put(0, 0, NEW);
        y.put(1, 0, NEW);
        y.put(2, 0, 1);
        y.mark(2, false);
        Check.row("one ahead", new int[] {y.draw(0), y.where(1, 1), y.where(2, 1), y.shelf(0, 3)}, 0, 0, 0, 1);
        Check.due("back", y.mark(2, true), true);
        Check.row("one behind", new int[] {y.where(0, 1), y.where(1, 1), y.where(2, 1), y.shelf(0, 3), y.where(2, 2)}, 0, 1, 1, 2, 1);
        Check.row("another shelf", new int[] {y.carry(0, 1, 1), y.where(2, 0), y.where(2, 1)}, 0, 1, 0);
        Check.due("back", y.mark(2, true), true);
        Check.row("as it was", new int[] {y.where(2, 0), y.where(2, 1), y.where(2, 2), y.shelf(1, 3)}, 0, 1, 1, 0);
        Check.feed(x, "abc");
        x.mark(0, true);
        Check.due("the TAPE is none of it", x.count(5), 3);
    }
}
