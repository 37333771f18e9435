/** Promises 21 to 27: ASKINGS, what they cost, BEST, ON TOP, HABIT, WHOLE. */
public final class AskTest {
    private static final int NEW = BowlShelf.NONE;

    private AskTest() {
    }

    public static void main(String[] args) {
        ask();
        asked();
        best();
        bestOfEqualOnes();
        bestOfMany();
        onTop();
        onTopRefused();
        habit();
        habitInLowestTerms();
        whole();
        wholeInParts();
        Check.end("AskTest");
    }

    private static String easy(String name, int weight, int breaks) {
        return Check.bowl(name, 5, 1, weight, 999, breaks);
    }

    /** Three in one STACK, 0 below, any order may stand; 3 is alone, 4 is OUT. */
    private static BowlShelf stacked() {
        BowlShelf x = Check.told(easy("a", 1, 10) + easy("b", 2, 20) + easy("c", 3, 30) + easy("d", 4, 0) + easy("e", 5, 99)
            + "nest 1 ; " + Check.shelf("s", 9, 1, 2) + "habit a 2 ; habit b 4 ; habit e 6 ; ");
        x.put(0, 0, NEW);
        x.put(1, 0, 0);
        x.put(2, 0, 0);
        x.put(3, 0, NEW);
        return x;
    }

    private static void askAll(BowlShelf x, int... wares) {
        for (int w : wares) {
            x.ask(w);
        }
    }

    private static void ask() {
        BowlShelf x = stacked();
        Check.due("none such", x.ask(5), -1);
        Check.due("none such", x.ask(-1), -1);
        for (int n = 1; n <= 30; n++) {
            Check.due("ask, out or not", x.ask(n % 5), n);
        }
        Check.due("30 are there", x.ask(0), -1);
        Check.due("count", x.count(4), 30);
        Check.due("clear", x.clear(), true);
        Check.due("count", x.count(4), 0);
        Check.due("asked", x.asked(), 0);
        Check.due("clear again", x.clear(), true);
        Check.due("ask", x.ask(0), 1);
        Check.due("none on a new one", new BowlShelf().ask(0), -1);
        Check.due("clear a new one", new BowlShelf().clear(), true);
    }

    private static void asked() {
        BowlShelf x = stacked();
        Check.due("none", x.asked(), 0);
        x.ask(2);
        Check.due("3 + 1", x.asked(), 4);
        x.ask(1);
        Check.due("and 3 + 2 * 4", x.asked(), 15);
        x.ask(0);
        Check.due("and 2 + 2 * (3 + 4)", x.asked(), 31);
        x.ask(0);
        Check.due("once more", x.asked(), 47);
        x.ask(4);
        Check.due("one that is out", x.asked(), 47);
        x.ask(3);
        Check.due("another stack", x.asked(), 52);
        x.draw(2);
        Check.due("as it stands now", x.asked(), 3 + 8 + 8 + 5);
        Check.due("nothing is paid for askings", x.cost(), (1 + 2 + 3 + 4) + 4 + 4);
    }

    private static void best() {
        BowlShelf x = stacked();
        askAll(x, 0, 0, 0, 1, 4, 3);
        // c below (never asked), then b, then a: 0 + (3 + 2 * 2) + 3 * 2
        Check.due("cost", x.best(0, 0, 0), 13);
        Check.due("below", x.best(0, 0, 1), 2);
        Check.due("middle", x.best(0, 0, 2), 1);
        Check.due("top", x.best(0, 0, 3), 0);
        Check.due("no more", x.best(0, 0, 4), -1);
        Check.due("what -1", x.best(0, 0, -1), -1);
        Check.due("the other stack", x.best(0, 1, 0), 5);
        Check.due("the other stack", x.best(0, 1, 1), 3);
        Check.due("no stack", x.best(0, 2, 0), -1);
        Check.due("no stack", x.best(0, -1, 0), -1);
        Check.due("no shelf", x.best(1, 0, 0), -1);
        Check.due("no shelf", x.best(-1, 0, 0), -1);
        Check.due("nothing has changed", x.at(0, 0, 0), 0);
        // the height forbids the cheapest: a is wide, so b goes in a alone
        BowlShelf y = Check.told(Check.bowl("a", 9, 5, 1, 99, 0) + Check.bowl("b", 8, 5, 1, 99, 0) + "nest 1 ; "
            + Check.shelf("s", 9, 0, 1) + Check.shelf("t", 10, 0, 1));
        y.put(0, 0, NEW);
        y.put(1, 0, 0);
        askAll(y, 0, 0);
        Check.due("a must be below", y.best(0, 0, 0), 6);
        y.carry(0, 0, 1);
        Check.due("on the higher shelf it need not", y.best(1, 0, 0), 2);
        Check.due("b below", y.best(1, 0, 1), 1);
        // and so does what they bear
        BowlShelf z = Check.told(Check.bowl("a", 9, 5, 3, 99, 0) + Check.bowl("b", 9, 5, 1, 2, 0) + "nest 1 ; " + Check.shelf("s", 99, 0, 1));
        z.put(0, 0, NEW);
        z.put(1, 0, 0);
        askAll(z, 0);
        Check.due("b does not bear a", z.best(0, 0, 0), 5);
        BowlShelf v = Check.told(Check.bowl("a", 9, 5, 3, 99, 0) + Check.bowl("b", 9, 5, 1, 3, 0) + "nest 1 ; " + Check.shelf("s", 10, 0, 1));
        v.put(0, 0, NEW);
        v.put(1, 0, 0);
        askAll(v, 0);
        Check.due("b just bears a, at the very height", v.best(0, 0, 0), 3);
    }

    private static void bestOfEqualOnes() {
        BowlShelf x = stacked();
        Check.due("nothing asked", x.best(0, 0, 0), 0);
        for (int i = 0; i < 3; i++) {
            Check.due("the first order", x.best(0, 0, 1 + i), i);
        }
        x.draw(0);
        x.put(0, 0, 0);
        Check.due("stands b, c, a", x.at(0, 0, 0), 1);
        for (int i = 0; i < 3; i++) {
            Check.due("the first order still", x.best(0, 0, 1 + i), i);
        }
        askAll(x, 2);
        Check.due("c on top", x.best(0, 0, 3), 2);
        Check.due("a first", x.best(0, 0, 1), 0);
    }

    private static void bestOfMany() {
        StringBuilder text = new StringBuilder("nest 1;shelf s height 99 reach 1 room 1;");
        for (int i = 0; i < 8; i++) {
            text.append("bowl ").append((char) ('a' + i)).append(" wide 5 deep 1 weight 1 bears 99 breaks 0;");
        }
        BowlShelf x = Check.told(text.toString());
        for (int i = 0; i < 7; i++) {
            x.put(i, 0, i == 0 ? NEW : 0);
            for (int n = 0; n < 7 - i && i < 6; n++) {
                x.ask(i);
            }
        }
        // asked 7, 6, 5, 4, 3, 2, 0 times: the more often, the higher; each costs 2, those above 4
        int cost = 0;
        int[] times = {7, 6, 5, 4, 3, 2, 0};
        for (int i = 0; i < 7; i++) {
            cost += times[i] * (2 + 4 * i);
        }
        Check.due("seven", x.best(0, 0, 0), cost);
        for (int i = 0; i < 7; i++) {
            Check.due("seven: " + i, x.best(0, 0, 1 + i), 6 - i);
        }
        Check.due("what 8", x.best(0, 0, 8), -1);
        Check.due("the eighth", x.put(7, 0, 0), 0);
        Check.due("more than seven", x.best(0, 0, 0), -1);
        Check.due("more than seven", x.best(0, 0, 1), -1);
    }

    private static void onTop() {
        BowlShelf x = stacked();
        Check.due("none", x.onTop(), 0);
        askAll(x, 0);
        Check.due("2 + 2 * (3 + 4)", x.onTop(), 16);
        askAll(x, 0);
        Check.due("it is on top then", x.onTop(), 18);
        askAll(x, 1);
        Check.due("b, c, a: 3 + 2 * (4 + 2)", x.onTop(), 33);
        askAll(x, 4, 3, 3);
        Check.due("out; alone", x.onTop(), 43);
        askAll(x, 0);
        Check.due("c, a, b: 2 + 2 * 3", x.onTop(), 51);
        Check.due("nothing has changed", x.at(0, 0, 0), 0);
        Check.due("nothing has changed", x.where(2, 2), 2);
        Check.due("as it stands", x.asked(), 16 * 3 + 11 + 10);
        Check.due("none on a new one", new BowlShelf().onTop(), 0);
    }

    private static void onTopRefused() {
        // a is wider than b: it goes back each time
        BowlShelf x = Check.told(Check.bowl("a", 9, 5, 1, 99, 0) + Check.bowl("b", 8, 5, 1, 99, 0) + Check.shelf("s", 20, 0, 1));
        x.put(0, 0, NEW);
        x.put(1, 0, 0);
        askAll(x, 0, 0);
        Check.due("may not", x.onTop(), 6);
        BowlShelf y = Check.told(Check.bowl("a", 9, 5, 1, 99, 0) + Check.bowl("b", 8, 5, 1, 99, 0) + "nest 1 ; "
            + Check.shelf("s", 9, 0, 1) + Check.shelf("t", 10, 0, 1));
        y.put(0, 0, NEW);
        y.put(1, 0, 0);
        askAll(y, 0, 0);
        Check.due("too high", y.onTop(), 6);
        y.carry(0, 0, 1);
        Check.due("not too high", y.onTop(), 4);
        BowlShelf z = Check.told(Check.bowl("a", 9, 5, 3, 99, 0) + Check.bowl("b", 9, 5, 1, 2, 0) + "nest 1 ; " + Check.shelf("s", 99, 0, 1));
        z.put(0, 0, NEW);
        z.put(1, 0, 0);
        askAll(z, 0, 0);
        Check.due("bears less", z.onTop(), 10);
    }

    private static void habit() {
        BowlShelf x = stacked();
        // (2 * 16 + 4 * 11 + 6 * 0) / 12 = 76 / 12 = 19 / 3
        Check.due("above", x.habit(0), 19);
        Check.due("below", x.habit(1), 3);
        Check.due("what 2", x.habit(2), -1);
        Check.due("what -1", x.habit(-1), -1);
        askAll(x, 0, 1, 2);
        Check.due("askings are none of it", x.habit(0), 19);
        BowlShelf none = Check.told(easy("a", 1, 1) + "habit a 0 ; " + Check.shelf("s", 9, 1, 1));
        none.put(0, 0, NEW);
        Check.due("no habit", none.habit(0), -1);
        Check.due("no habit", none.habit(1), -1);
        Check.due("no ware", new BowlShelf().habit(0), -1);
    }

    private static void habitInLowestTerms() {
        BowlShelf x = Check.told(easy("a", 99, 1) + easy("b", 99, 1) + "habit a 99 ; habit b 99 ; nest 1 ; " + Check.shelf("s", 9, 99, 1));
        Check.due("all out: above", x.habit(0), 0);
        Check.due("all out: below", x.habit(1), 1);
        x.put(0, 0, NEW);
        Check.due("99 * 198 of 198", x.habit(0), 99);
        Check.due("99 * 198 of 198", x.habit(1), 1);
        x.put(1, 0, 0);
        Check.due("594 and 198, half each", x.habit(0), 396);
        Check.due("below", x.habit(1), 1);
        BowlShelf y = Check.told(easy("a", 4, 1) + "habit a 1 ; " + Check.shelf("s", 9, 1, 1));
        y.put(0, 0, NEW);
        Check.due("one habit of 1", y.habit(0), 5);
        Check.due("one habit of 1", y.habit(1), 1);
        BowlShelf z = Check.told(easy("a", 4, 1) + easy("b", 5, 1) + "habit a 1 ; habit b 2 ; " + Check.shelf("s", 9, 1, 1));
        z.put(0, 0, NEW);
        Check.due("nothing in common", z.habit(0), 5);
        Check.due("nothing in common", z.habit(1), 3);
    }

    private static void whole() {
        BowlShelf x = stacked();
        Check.due("never lifted", Check.whole(x, 0, 0), 1);
        Check.due("never lifted", Check.whole(x, 0, 4), 0);
        askAll(x, 2, 1, 0, 3, 4, 4);
        int[] lifts = {1, 3, 5, 1, 0};
        long[] above = {90, 80 * 80 * 80, 70L * 70 * 70 * 70 * 70, 100, 1};
        for (int w = 0; w < 5; w++) {
            Check.due("lifts " + w, Check.whole(x, w, 4), lifts[w]);
            Check.due("above " + w, Check.whole(x, w, 0), above[w] % 1000000000L);
            Check.due("above " + w, Check.whole(x, w, 1), above[w] / 1000000000L);
        }
        Check.due("none such", Check.whole(x, 5, 0), Check.THROWS);
        Check.due("none such", Check.whole(x, -1, 4), Check.THROWS);
        Check.due("part 5", Check.whole(x, 0, 5), Check.THROWS);
        Check.due("part -1", Check.whole(x, 0, -1), Check.THROWS);
        Check.due("none on a new one", Check.whole(new BowlShelf(), 0, 0), Check.THROWS);
    }

    private static void wholeInParts() {
        BowlShelf x = stacked();
        for (int n = 0; n < 17; n++) {
            x.ask(3);
        }
        for (int n = 0; n < 6; n++) {
            x.ask(1);
        }
        Check.due("17 times", Check.whole(x, 3, 4), 17);
        // 100 to the 17th: 1 and 34 noughts
        long[] parts = {0, 0, 0, 10000000};
        for (int i = 0; i < 4; i++) {
            Check.due("part " + i, Check.whole(x, 3, i), parts[i]);
        }
        Check.due("12 times", Check.whole(x, 2, 4), 12);
        // 70 to the 12th: 13841287201 and 12 noughts
        long[] others = {0, 287201000, 13841, 0};
        for (int i = 0; i < 4; i++) {
            Check.due("part " + i, Check.whole(x, 2, i), others[i]);
        }
        askAll(x, 3);
        for (int part = 0; part < 5; part++) {
            Check.due("18 times", Check.whole(x, 3, part), Check.THROWS);
        }
        askAll(x, 1, 1);
        Check.due("16 times", Check.whole(x, 2, 4), 16);
        askAll(x, 1);
        Check.due("18 times", Check.whole(x, 2, 4), Check.THROWS);
        Check.due("the others not", Check.whole(x, 1, 4), 9);
        BowlShelf y = Check.told(easy("a", 1, 99) + Check.shelf("s", 9, 1, 1));
        y.put(0, 0, NEW);
        for (int n = 0; n < 17; n++) {
            y.ask(0);
        }
        Check.due("1 to the 17th", Check.whole(y, 0, 0), 1);
        Check.due("1 to the 17th", Check.whole(y, 0, 3), 0);
    }
}
