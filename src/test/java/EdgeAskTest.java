import java.math.BigInteger;

/** ASKINGS, BEST, ON TOP, HABIT, WHOLE: each sentence of the document that names an edge, and answers due by it. */
public final class EdgeAskTest {
    private static final int NEW = BowlShelf.NONE;
    private static final int MOST = Integer.MAX_VALUE;
    private static final int LEAST = Integer.MIN_VALUE;

    private EdgeAskTest() {
    }

    public static void main(String[] args) {
        mostAskings();
        askOthers();
        clear();
        takenIfNotOut();
        refusedOrNot();
        putBack();
        asItStands();
        askedNone();
        bestOfSeven();
        bestOnItsShelf();
        bestOfThem();
        bestOfEqualOnes();
        bestOthers();
        onTopIfItStands();
        onTopNothingChanges();
        onTopEdges();
        onTopFull();
        habitOfAll();
        habitOut();
        habitLowest();
        habitOthers();
        wholeLifted();
        wholeOdds();
        wholeParts();
        wholeOthers();
        wholeTooOften();
        Check.end("EdgeAskTest");
    }

    /** n bowls of weight 1 that stand in any order, each 1 high; the odd ones break with 99, the even ones never. */
    private static String bowls(int n) {
        StringBuilder text = new StringBuilder("nest 1;");
        for (int i = 0; i < n; i++) {
            text.append("bowl ").append((char) ('a' + i)).append(" wide 5 deep 1 weight 1 bears 99 breaks ").append(i % 2 * 99).append(';');
        }
        return text.toString();
    }

    private static BowlShelf oneStack(int n, String more) {
        BowlShelf x = Check.told(bowls(n) + more);
        for (int i = 0; i < n; i++) {
            Check.due("put " + i, x.put(i, 0, i == 0 ? NEW : 0), 0);
        }
        return x;
    }

    private static void ask(BowlShelf x, int times, int... wares) {
        for (int n = 0; n < times; n++) {
            for (int w : wares) {
                Check.due("ask " + w, x.ask(w) > 0, true);
            }
        }
    }

    private static int[] bestOf(BowlShelf x, int shelf, int stack) {
        int[] wares = new int[Math.max(0, x.stack(shelf, stack, 0))];
        for (int i = 0; i < wares.length; i++) {
            wares[i] = x.best(shelf, stack, 1 + i);
        }
        return wares;
    }

    private static void mostAskings() {
        Check.says("ASKINGS: WARES, 30 at most.");
        BowlShelf x = oneStack(2, Check.shelf("s", 9, 0, 1));
        for (int n = 1; n <= 30; n++) {
            Check.due("ask", x.ask(n % 2), n);
        }
        Check.row("full", new int[] {x.ask(0), x.ask(1), x.count(4), x.asked()}, -1, -1, 30, 15 * 1 + 15 * 3);
        x.clear();
        Check.row("again", new int[] {x.ask(1), x.count(4), x.asked()}, 1, 1, 1);
    }

    private static void askOthers() {
        Check.says("An ASKING: how many there are; NONE: no such WARE, 30 are there.");
        BowlShelf x = Check.told(bowls(12));
        Check.all("no such", new int[] {x.ask(12), x.ask(-1), x.ask(MOST), x.ask(LEAST)}, -1);
        Check.row("how many, out or not", new int[] {x.ask(11), x.ask(0), x.ask(12), x.ask(11), x.count(4)}, 1, 2, -1, 3, 3);
        for (int n = 4; n <= 30; n++) {
            x.ask(5);
        }
        Check.row("30 are there", new int[] {x.ask(0), x.ask(12), x.count(4)}, -1, -1, 30);
    }

    private static void clear() {
        Check.says("No ASKING: true.");
        BowlShelf x = oneStack(2, Check.shelf("s", 9, 0, 1));
        Check.due("none was there", x.clear(), true);
        ask(x, 15, 0, 1);
        Check.due("thirty were there", x.clear(), true);
        Check.row("none", new int[] {x.count(4), x.asked(), x.onTop(), x.best(0, 0, 0)}, 0, 0, 0, 0);
        Check.due("never lifted", Check.whole(x, 1, 4), 0);
        Check.row("all stands still", new int[] {x.count(3), x.cost()}, 0, 2);
        Check.due("and again", x.clear(), true);
    }

    private static void takenIfNotOut() {
        Check.says("Each is taken (if it is not OUT)");
        BowlShelf x = Check.told(bowls(2) + Check.shelf("s", 9, 3, 1));
        ask(x, 2, 0, 1);
        Check.row("all are out", new int[] {x.asked(), x.onTop()}, 0, 0);
        Check.due("never lifted", Check.whole(x, 0, 4), 0);
        x.put(0, 0, NEW);
        Check.row("one is not", new int[] {x.asked(), x.onTop()}, 8, 8);
        x.put(1, 0, 0);
        Check.row("none is", new int[] {x.asked(), x.best(0, 0, 0)}, 2 * 4 + 2 * 12, 2 * 4 + 2 * 12);
        x.draw(0);
        Check.row("one is again", new int[] {x.asked(), x.onTop()}, 8, 8);
    }

    private static void refusedOrNot() {
        Check.says("it costs what DRAWING it would cost, whether it would be REFUSED or not");
        BowlShelf x = Check.told(Check.bowl("a", 9, 5, 1, 99, 10) + Check.bowl("b", 6, 5, 2, 99, 10) + Check.bowl("c", 3, 5, 4, 99, 10)
            + "nest inner + 3 = outer;" + Check.shelf("s", 99, 5, 1));
        x.put(0, 0, NEW);
        x.put(1, 0, 0);
        x.put(2, 0, 0);
        ask(x, 1, 1);
        Check.row("it would be", new int[] {x.draw(1), x.asked(), x.lift(1)}, 4, 25, 25);
        Check.row("what is lifted for it", new int[] {(int) Check.whole(x, 0, 4), (int) Check.whole(x, 1, 4), (int) Check.whole(x, 2, 4)}, 0, 1, 2);
        ask(x, 1, 0);
        Check.row("it would not be", new int[] {x.asked(), x.lift(0)}, 25 + 38, 38);
    }

    private static void putBack() {
        Check.says("and is put back where it was (nothing for that).");
        BowlShelf x = oneStack(3, Check.shelf("s", 9, 2, 1));
        int before = x.cost();
        ask(x, 3, 0);
        Check.row("each costs the same", new int[] {x.asked(), x.asked(), x.cost() - before}, 3 * 15, 3 * 15, 0);
        Check.row("all stands as it was", new int[] {x.at(0, 0, 0), x.at(0, 0, 1), x.at(0, 0, 2), x.count(3), x.count(4)}, 0, 1, 2, 0, 3);
    }

    private static void asItStands() {
        Check.says("AS IT STANDS: all ASKINGS together.");
        BowlShelf x = oneStack(12, Check.shelf("s", 12, 99, 1) + Check.shelf("t", 12, 0, 1));
        Check.due("none", x.asked(), 0);
        ask(x, 30, 0);
        Check.due("the most: 100 and twice eleven", x.asked(), 30 * (100 + 2 * 1100));
        x.carry(0, 0, 1);
        Check.due("on the other shelf", x.asked(), 30 * (1 + 22));
        x.clear();
        ask(x, 1, 0, 11, 5);
        Check.due("three", x.asked(), 23 + 1 + 13);
    }

    private static void askedNone() {
        Check.says("What all ASKINGS cost AS IT STANDS.");
        Check.due("no cupboard", new BowlShelf().asked(), 0);
        BowlShelf x = oneStack(2, Check.shelf("s", 9, 0, 1));
        Check.due("none", x.asked(), 0);
        Check.row("no such ware is none", new int[] {x.ask(2), x.asked()}, -1, 0);
        ask(x, 1, 0);
        Check.row("one", new int[] {x.asked(), x.draw(0), x.asked(), x.put(0, 0, 0), x.asked()}, 3, 0, 0, 0, 1);
        ask(x, 29, 1);
        Check.row("thirty, no more", new int[] {x.asked(), x.ask(1), x.asked()}, 1 + 29 * 3, -1, 1 + 29 * 3);
    }

    private static void bestOfSeven() {
        Check.says("BEST of a STACK: the order of its WARES (7 at most)");
        BowlShelf x = oneStack(7, Check.shelf("s", 12, 1, 1));
        ask(x, 1, 0, 0, 0, 0, 0, 0, 1, 1, 1, 1, 1, 2, 2, 2, 2, 3, 3, 3, 4, 4, 5);
        Check.row("seven", bestOf(x, 0, 0), 6, 5, 4, 3, 2, 1, 0);
        Check.due("2 each, 4 for each above", x.best(0, 0, 0), 6 * 2 + 5 * 6 + 4 * 10 + 3 * 14 + 2 * 18 + 22);
        Check.all("no eighth", new int[] {x.best(0, 0, 8), x.best(0, 0, 9)}, -1);
        BowlShelf y = oneStack(8, Check.shelf("s", 12, 1, 1));
        Check.all("eight", new int[] {y.best(0, 0, 0), y.best(0, 0, 1), y.best(0, 0, 7), y.best(0, 0, 8)}, -1);
        y.draw(7);
        Check.row("seven", bestOf(y, 0, 0), 0, 1, 2, 3, 4, 5, 6);
        BowlShelf z = oneStack(12, Check.shelf("s", 12, 1, 1));
        Check.all("twelve", new int[] {z.best(0, 0, 0), z.best(0, 0, 1), z.best(0, 0, 12)}, -1);
        BowlShelf one = oneStack(1, Check.shelf("s", 1, 1, 1));
        Check.row("one", bestOf(one, 0, 0), 0);
    }

    private static void bestOnItsShelf() {
        Check.says("in which they STAND on its shelf for which the ASKINGS of them cost least");
        // a below is 1 + 5 high, b below 10: that is the shelf's height, or one more
        for (int height = 9; height <= 10; height++) {
            BowlShelf x = Check.told("nest 1;" + Check.bowl("a", 9, 5, 3, 99, 0) + Check.bowl("b", 8, 5, 1, 3, 0) + Check.shelf("s", height, 0, 1)
                + Check.shelf("t", 99, 0, 1));
            x.put(0, 0, NEW);
            x.put(1, 0, 0);
            ask(x, 1, 0);
            Check.row("at " + height, bestOf(x, 0, 0), height == 9 ? 0 : 1, height == 9 ? 1 : 0);
            Check.due("costs", x.best(0, 0, 0), height == 9 ? 5 : 3);
            x.carry(0, 0, 1);
            Check.due("on a higher shelf", x.best(1, 0, 0), 3);
        }
        // b bears 3, or one less than a weighs
        for (int bears = 2; bears <= 3; bears++) {
            BowlShelf x = Check.told("nest 1;" + Check.bowl("a", 9, 5, 3, 99, 0) + Check.bowl("b", 8, 5, 1, bears, 0) + Check.shelf("s", 99, 0, 1));
            x.put(0, 0, NEW);
            x.put(1, 0, 0);
            ask(x, 1, 0);
            Check.due("bears " + bears, x.best(0, 0, 0), bears == 2 ? 5 : 3);
        }
        BowlShelf y = Check.told(Check.bowl("a", 9, 5, 3, 99, 0) + Check.bowl("b", 8, 5, 1, 99, 0) + Check.shelf("s", 99, 0, 1));
        y.put(0, 0, NEW);
        y.put(1, 0, 0);
        ask(y, 5, 0);
        Check.row("a may not stand on b", bestOf(y, 0, 0), 0, 1);
    }

    private static void bestOfThem() {
        Check.says("for which the ASKINGS of them cost least");
        BowlShelf x = Check.told(bowls(5) + Check.shelf("s", 9, 1, 2));
        x.put(0, 0, NEW);
        x.put(1, 0, 0);
        x.put(2, 0, NEW);
        x.put(3, 0, 1);
        ask(x, 1, 0, 4, 4, 2, 2, 2, 3);
        Check.row("of the first", new int[] {x.best(0, 0, 0), x.best(0, 0, 1), x.best(0, 0, 2)}, 2, 1, 0);
        Check.row("of the second", new int[] {x.best(0, 1, 0), x.best(0, 1, 1), x.best(0, 1, 2)}, 3 * 2 + 6, 3, 2);
        x.clear();
        Check.row("without askings it costs nothing", new int[] {x.best(0, 0, 0), x.best(0, 1, 0)}, 0, 0);
    }

    private static void bestOfEqualOnes() {
        Check.says("cost least; of equal ones the first.");
        BowlShelf x = Check.told(bowls(4) + Check.shelf("s", 9, 1, 2));
        for (int w = 3; w >= 0; w--) {
            x.put(w, 0, w == 3 ? NEW : 0);
        }
        Check.row("it stands the other way round", new int[] {x.at(0, 0, 0), x.at(0, 0, 3)}, 3, 0);
        Check.row("all are equal", bestOf(x, 0, 0), 0, 1, 2, 3);
        ask(x, 2, 0, 1, 2, 3);
        Check.row("asked as often", bestOf(x, 0, 0), 0, 1, 2, 3);
        ask(x, 1, 1);
        Check.row("one more often", bestOf(x, 0, 0), 0, 2, 3, 1);
    }

    private static void bestOthers() {
        Check.says("BEST of a STACK, what 0: what it costs, 1 + i: the i-th from below; NONE: others, more than 7, none STANDS.");
        BowlShelf x = oneStack(3, Check.shelf("s", 9, 1, 2) + Check.shelf("t", 9, 1, 2));
        ask(x, 1, 2);
        Check.row("what", new int[] {x.best(0, 0, 0), x.best(0, 0, 1), x.best(0, 0, 2), x.best(0, 0, 3)}, 2, 0, 1, 2);
        Check.all("others", new int[] {x.best(0, 0, 4), x.best(0, 0, 7), x.best(0, 0, -1), x.best(0, 0, MOST), x.best(0, 0, LEAST), x.best(0, 1, 0),
            x.best(0, -1, 0), x.best(1, 0, 0), x.best(2, 0, 0), x.best(-1, 0, 0), x.best(MOST, 0, 0), x.best(0, MOST, 0), x.best(LEAST, LEAST, 0)}, -1);
    }

    private static void onTopIfItStands() {
        Check.says("ON TOP: each that is asked is put on top of its STACK, if the rest and it STAND so (else it goes back)");
        BowlShelf x = oneStack(3, Check.shelf("s", 9, 1, 2));
        ask(x, 1, 0);
        Check.due("2 and twice 4", x.onTop(), 10);
        ask(x, 1, 0);
        Check.due("it is on top", x.onTop(), 12);
        ask(x, 1, 1);
        Check.due("1 is below now", x.onTop(), 12 + 10);
        ask(x, 1, 0);
        Check.due("0 is in the middle", x.onTop(), 22 + 6);
        // c may stand on b alone: b goes back, so does c's STACK without it; a goes on top of nothing
        BowlShelf y = Check.told(Check.bowl("a", 9, 1, 1, 99, 0) + Check.bowl("b", 6, 1, 1, 99, 0) + Check.bowl("c", 3, 1, 1, 99, 0)
            + "nest inner + 3 = outer;" + Check.shelf("s", 99, 0, 1));
        y.put(0, 0, NEW);
        y.put(1, 0, 0);
        y.put(2, 0, 0);
        ask(y, 2, 1, 0);
        Check.row("each goes back", new int[] {y.onTop(), y.asked()}, 2 * (3 + 5), 2 * (3 + 5));
    }

    private static void onTopNothingChanges() {
        Check.says("what all ASKINGS cost so (nothing changes).");
        BowlShelf x = oneStack(3, Check.shelf("s", 9, 1, 2));
        Check.due("none", x.onTop(), 0);
        int before = x.cost();
        ask(x, 1, 0, 1, 0);
        Check.row("twice the same", new int[] {x.onTop(), x.onTop()}, 10 + 10 + 6, 10 + 10 + 6);
        Check.row("all as it was", new int[] {x.at(0, 0, 0), x.at(0, 0, 1), x.at(0, 0, 2), x.cost() - before, x.count(4)}, 0, 1, 2, 0, 3);
        Check.due("as it stands", x.asked(), 10 + 6 + 10);
    }

    private static void onTopEdges() {
        Check.says("if the rest and it STAND so");
        for (int height = 9; height <= 10; height++) {
            BowlShelf x = Check.told("nest 1;" + Check.bowl("a", 9, 5, 1, 99, 0) + Check.bowl("b", 8, 5, 1, 99, 0) + Check.shelf("s", height, 0, 1));
            x.put(0, 0, NEW);
            x.put(1, 0, 0);
            ask(x, 2, 0);
            Check.due("5 on 5 at " + height, x.onTop(), height == 9 ? 6 : 4);
        }
        for (int bears = 2; bears <= 3; bears++) {
            BowlShelf x = Check.told("nest 1;" + Check.bowl("a", 9, 5, 3, 99, 0) + Check.bowl("b", 8, 5, 1, bears, 0) + Check.shelf("s", 99, 0, 1));
            x.put(0, 0, NEW);
            x.put(1, 0, 0);
            ask(x, 2, 0);
            Check.due("3 on what bears " + bears, x.onTop(), bears == 2 ? 10 : 8);
        }
        BowlShelf y = Check.told("nest 1;" + Check.bowl("a", 9, 5, 1, 99, 0) + Check.bowl("b", 8, 5, 1, 99, 0) + "top b;" + Check.shelf("s", 99, 0, 1));
        y.put(0, 0, NEW);
        y.put(1, 0, 0);
        ask(y, 2, 0);
        Check.due("not on a top", y.onTop(), 6);
        BowlShelf alone = oneStack(1, Check.shelf("s", 1, 0, 1));
        ask(alone, 30, 0);
        Check.due("one alone is on top", alone.onTop(), 30);
    }

    private static void onTopFull() {
        Check.says("What all ASKINGS cost ON TOP.");
        Check.due("no cupboard", new BowlShelf().onTop(), 0);
        BowlShelf x = oneStack(12, Check.shelf("s", 12, 99, 1));
        Check.due("none", x.onTop(), 0);
        ask(x, 2, 0, 1, 2, 3, 4, 5, 6, 7, 8, 9, 10, 11);
        // each is the lowest when it is asked
        Check.row("twelve, twice", new int[] {x.onTop(), x.onTop()}, 24 * (100 + 22 * 100), 24 * (100 + 22 * 100));
        ask(x, 1, 11, 11, 11, 10, 10, 10);
        Check.row("thirty", new int[] {x.ask(0), x.onTop()}, -1, 24 * 2300 + 3 * 100 + 300 + 2 * 100);
        BowlShelf y = Check.told(bowls(4) + Check.shelf("s", 12, 1, 1) + Check.shelf("t", 12, 0, 1));
        for (int w = 0; w < 4; w++) {
            y.put(w, w % 2, w < 2 ? NEW : 0);
        }
        ask(y, 2, 0, 1, 2, 3);
        // 0 and 2 on one shelf, 1 and 3 on the other: each is the lower one when it is asked
        Check.due("of two stacks", y.onTop(), 4 * 6 + 4 * 3);
    }

    private static void habitOfAll() {
        Check.says("the mean cost of an asking: each WARE is asked by its habit of all habits");
        BowlShelf x = oneStack(2, "habit a 3;" + "habit b 2;" + Check.shelf("s", 9, 1, 1));
        // a costs 2 + 2 * 2, b 2: (18 + 4) of 5
        Check.row("22 of 5", new int[] {x.habit(0), x.habit(1)}, 22, 5);
        ask(x, 5, 0);
        Check.row("askings are none of it", new int[] {x.habit(0), x.habit(1)}, 22, 5);
        BowlShelf y = Check.told(bowls(12).replace("weight 1", "weight 9").replace("bears 99", "bears 999") + habits(12) + "shelf s height 12 reach 99 room 1;");
        for (int w = 0; w < 12; w++) {
            Check.due("put", y.put(w, 0, w == 0 ? NEW : 0), 0);
        }
        // all habits alike, the most that can be: each costs 108, and 216 for each above, of which there are 66
        Check.row("twelve", new int[] {y.habit(0), y.habit(1)}, 108 + 216 * 66 / 12, 1);
    }

    private static String habits(int n) {
        StringBuilder text = new StringBuilder();
        for (int i = 0; i < n; i++) {
            text.append("habit ").append((char) ('a' + i)).append(" 99;");
        }
        return text.toString();
    }

    private static void habitOut() {
        Check.says("(those that are OUT cost nothing).");
        BowlShelf x = Check.told(bowls(3) + "habit a 3; habit b 3;" + Check.shelf("s", 9, 1, 1));
        Check.row("all are out: 0 of 1", new int[] {x.habit(0), x.habit(1)}, 0, 1);
        x.put(2, 0, NEW);
        Check.row("one without a habit", new int[] {x.habit(0), x.habit(1)}, 0, 1);
        x.put(0, 0, 0);
        Check.row("2 for half of all", new int[] {x.habit(0), x.habit(1)}, 1, 1);
        x.put(1, 0, 0);
        Check.row("6 and 2, half each", new int[] {x.habit(0), x.habit(1)}, 4, 1);
    }

    private static void habitLowest() {
        Check.says("By HABIT, what 0: above, 1: below, in lowest terms");
        BowlShelf x = Check.told(bowls(3) + "habit a 6; habit b 4; habit c 5;" + Check.shelf("s", 9, 1, 3));
        x.put(0, 0, NEW);
        Check.row("12 of 15", new int[] {x.habit(0), x.habit(1)}, 4, 5);
        x.draw(0);
        x.put(1, 0, NEW);
        Check.row("8 of 15", new int[] {x.habit(0), x.habit(1)}, 8, 15);
        x.put(2, 0, NEW);
        Check.row("18 of 15", new int[] {x.habit(0), x.habit(1)}, 6, 5);
        x.put(0, 0, NEW);
        Check.row("30 of 15", new int[] {x.habit(0), x.habit(1)}, 2, 1);
        BowlShelf y = Check.told(bowls(2) + "habit a 1; habit b 99;" + Check.shelf("s", 9, 0, 3));
        y.put(0, 0, NEW);
        Check.row("1 of 100", new int[] {y.habit(0), y.habit(1)}, 1, 100);
        BowlShelf z = oneStack(1, "habit a 1;" + Check.shelf("s", 9, 5, 3));
        Check.row("the least habit there is", new int[] {z.habit(0), z.habit(1)}, 6, 1);
    }

    private static void habitOthers() {
        Check.says("NONE: another what, no habit.");
        BowlShelf x = oneStack(2, "habit a 3;" + Check.shelf("s", 9, 1, 1));
        Check.all("another what", new int[] {x.habit(2), x.habit(-1), x.habit(MOST), x.habit(LEAST)}, -1);
        BowlShelf y = oneStack(2, "habit a 0; habit b 0;" + Check.shelf("s", 9, 1, 1));
        Check.all("no habit but 0", new int[] {y.habit(0), y.habit(1), y.habit(2)}, -1);
        BowlShelf z = oneStack(2, Check.shelf("s", 9, 1, 1));
        Check.all("no habit", new int[] {z.habit(0), z.habit(1)}, -1);
        Check.all("no ware", new int[] {Check.told("").habit(0), Check.told("").habit(1)}, -1);
    }

    private static void wholeLifted() {
        Check.says("each time a WARE is lifted (for an ASKING: as in COST) it breaks with breaks of a hundred.");
        BowlShelf x = oneStack(4, Check.shelf("s", 9, 1, 1));
        ask(x, 1, 1);
        long[] lifts = {0, 1, 2, 2};
        for (int w = 0; w < 4; w++) {
            Check.due("lifted for 1", Check.whole(x, w, 4), lifts[w]);
        }
        ask(x, 1, 3, 0);
        long[] more = {1, 3, 4, 5};
        for (int w = 0; w < 4; w++) {
            Check.due("lifted for 1, 3, 0", Check.whole(x, w, 4), more[w]);
            Check.due("100 or 1 of a hundred each time", Check.whole(x, w, 0), w % 2 == 1 ? 1 : w == 0 ? 100 : 100000000);
        }
        BowlShelf y = Check.told(bowls(4) + Check.shelf("s", 9, 1, 4));
        y.put(0, 0, NEW);
        y.put(1, 0, NEW);
        ask(y, 3, 0);
        Check.due("another stack is not lifted", Check.whole(y, 1, 4), 0);
        Check.due("nor one that is out", Check.whole(y, 2, 4), 0);
    }

    private static void wholeOdds() {
        Check.says("The odds that a WARE is WHOLE behind all ASKINGS, AS IT STANDS.");
        BowlShelf x = oneStack(2, Check.shelf("s", 9, 1, 1));
        Check.row("no asking: 1 of 1", new int[] {(int) Check.whole(x, 1, 0), (int) Check.whole(x, 1, 1), (int) Check.whole(x, 1, 4)}, 1, 0, 0);
        ask(x, 8, 0);
        Check.row("sixteen times", new int[] {(int) Check.whole(x, 1, 4), (int) Check.whole(x, 0, 4)}, 16, 8);
        x.draw(0);
        Check.row("as it stands now", new int[] {(int) Check.whole(x, 1, 4), (int) Check.whole(x, 0, 4)}, 0, 0);
        x.put(0, 0, 0);
        Check.row("on top now", new int[] {(int) Check.whole(x, 1, 4), (int) Check.whole(x, 0, 4)}, 0, 8);
    }

    private static void wholeParts() {
        Check.says("part 0 to 3: the last nine digits of what is above, then nine ahead of these; "
            + "below is a hundred to the power of how often it is lifted (part 4).");
        BigInteger nine = BigInteger.TEN.pow(9);
        for (int breaks : new int[] {0, 1, 7, 50, 98, 99}) {
            BowlShelf x = Check.told("bowl a wide 1 deep 1 weight 1 bears 0 breaks " + breaks + ";" + Check.shelf("s", 9, 1, 1));
            x.put(0, 0, NEW);
            for (int lifts = 0; lifts <= 17; lifts++) {
                BigInteger above = BigInteger.valueOf(100 - breaks).pow(lifts);
                for (int part = 0; part < 4; part++) {
                    Check.due(breaks + ": part " + part + " of " + lifts, Check.whole(x, 0, part), above.mod(nine).longValue());
                    above = above.divide(nine);
                }
                Check.due("nothing is left out", above.signum(), 0);
                Check.due("part 4", Check.whole(x, 0, 4), lifts);
                x.ask(0);
            }
        }
    }

    private static void wholeOthers() {
        Check.says("NoSuchElementException: others, it is lifted more than 17 times.");
        BowlShelf x = oneStack(2, Check.shelf("s", 9, 1, 1));
        for (int ware : new int[] {2, -1, 12, MOST, LEAST}) {
            Check.due("no such ware", Check.whole(x, ware, 0), Check.THROWS);
            Check.due("no such ware", Check.whole(x, ware, 4), Check.THROWS);
        }
        for (int part : new int[] {5, -1, MOST, LEAST}) {
            Check.due("no such part", Check.whole(x, 0, part), Check.THROWS);
        }
        Check.due("part 4 is one", Check.whole(x, 0, 4), 0);
        Check.row("it changes nothing", new int[] {x.count(3), x.cost(), x.count(4)}, 0, 4, 0);
    }

    private static void wholeTooOften() {
        Check.says("it is lifted more than 17 times.");
        BowlShelf x = oneStack(3, Check.shelf("s", 9, 1, 1));
        ask(x, 8, 0);
        ask(x, 1, 1);
        Check.row("17 by 8 below and itself", new int[] {(int) Check.whole(x, 1, 4), (int) Check.whole(x, 0, 4)}, 17, 8);
        for (int part = 0; part < 5; part++) {
            Check.due("18 on top", Check.whole(x, 2, part), Check.THROWS);
            Check.due("17 is not too often", Check.whole(x, 1, part) != Check.THROWS, true);
        }
        ask(x, 1, 1);
        for (int part = 0; part < 5; part++) {
            Check.due("18 now", Check.whole(x, 1, part), Check.THROWS);
        }
        ask(x, 20, 0);
        Check.due("60 on top", Check.whole(x, 2, 4), Check.THROWS);
        x.draw(2);
        Check.due("out: never lifted", Check.whole(x, 2, 4), 0);
        Check.due("out: whole", Check.whole(x, 2, 0), 1);
    }
}
