/** The TAPE and its TOKENS: each sentence of the document that names an edge, and answers due by it. */
public final class EdgeTapeTest {
    private static final long BLANKS = 0x2020202020202020L;
    private static final String KK = "bowl kk wide 5 deep 5 weight 5 bears 5 breaks 5 ; ";

    private EdgeTapeTest() {
    }

    public static void main(String[] args) {
        emptyCupboard();
        manyCalls();
        mostSigns();
        whichSigns();
        takenByReading();
        behindTheTape();
        highestFirst();
        leftOut();
        howManyThereAre();
        longestTokens();
        blanks();
        words();
        numbers();
        signs();
        allElse();
        Check.end("EdgeTapeTest");
    }

    private static BowlShelf fed(String text) {
        BowlShelf x = new BowlShelf();
        Check.feed(x, text);
        return x;
    }

    private static void emptyCupboard() {
        Check.says("An empty CUPBOARD without a shelf.");
        BowlShelf x = new BowlShelf();
        Check.row("counts", new int[] {x.count(0), x.count(1), x.count(2), x.count(3), x.count(4), x.count(5)}, 0, 0, 0, 0, 0, 0);
        Check.row("sums", new int[] {x.cost(), x.asked(), x.onTop(), x.rows(0), x.rows(1), x.needed(1), x.needed(999)}, 0, 0, 0, 0, 0, 0, 0);
        Check.row("refused", new int[] {x.put(0, 0, -1), x.put(0, 0, 0), x.draw(0), x.carry(0, 0, 1)}, 1, 1, 1, 1);
        Check.all("NONE", new int[] {x.ware(0, 0), x.shelf(0, 0), x.may(0, 1), x.where(0, 0), x.at(0, 0, 0), x.stack(0, 0, 0),
            x.lift(0), x.through(0, 0), x.rowOf(0), x.sorted(0, 5, 0), x.sorted(1, 5, 0), x.goes(0, 0), x.ask(0), x.best(0, 0, 0),
            x.habit(0), x.habit(1), x.rows(2), x.needed(0), x.needed(1000)}, -1);
        Check.due("whole", Check.whole(x, 0, 0), Check.THROWS);
        Check.due("clear", x.clear(), true);
        Check.due("nothing on a mark", x.mark(0, true), false);
        Check.due("a mark of nothing", x.mark(0, false), true);
        Check.due("back to nothing", x.mark(0, true), true);
    }

    private static void manyCalls() {
        Check.says("An object is used for at most 512 calls after it has been made; what later calls answer is free.");
        StringBuilder text = new StringBuilder("nest 1;shelf s height 99 reach 1 room 8;");
        for (int i = 0; i < 12; i++) {
            text.append("bowl ").append((char) ('a' + i)).append(" wide 5 deep 1 weight 1 bears 99 breaks 0;");
        }
        BowlShelf x = new BowlShelf();
        int calls = (text.length() + 23) / 24 + 1;
        Check.due("cupboard", Check.tell(x, text.toString()), 0);
        for (int i = 0; i < 7; i++) {
            Check.due("put", x.put(i, 0, i == 0 ? -1 : 0), 0);
            Check.due("ask", x.ask(i), i + 1);
            calls += 2;
        }
        // seven that cost 2 each and 4 for each above: 14 + 4 * 21
        while (calls <= 507) {
            Check.row("call " + calls, new int[] {x.needed(12), x.needed(11), x.best(0, 0, 0), x.goes(7, 2), x.sorted(4095, 12, 11)},
                1, 2, 98, 0, 11);
            calls += 5;
        }
        while (calls < 512) {
            Check.due("call " + calls, x.onTop() > 0, true);
            calls++;
        }
    }

    private static void mostSigns() {
        Check.says("The TAPE has at most 1,000 signs");
        String start = "top zz ; ";
        BowlShelf x = new BowlShelf();
        for (int i = 1; i <= 41; i++) {
            Check.due("feed " + i, x.feed(BLANKS, BLANKS, BLANKS), 24 * i);
        }
        Check.due("984 and 15", x.feed(BLANKS, 0x2020202020202000L, 0L), 999);
        Check.due("the 1,000th", x.feed(0x3B00000000000000L, 0L, 0L), 1000);
        Check.due("full", x.feed(0x2000000000000000L, 0L, 0L), 1000);
        Check.due("full", x.feed(BLANKS, BLANKS, BLANKS), 1000);
        Check.due("the 1,000th is read", x.cupboard(), 1 + 16 * 999);
        BowlShelf y = fed(start.replace("zz", "zz ") + " ".repeat(989) + ";");
        Check.due("999 and 1", y.count(5), 1000);
        Check.due("behind top", y.cupboard(), 2 + 16 * 4);
        // a statement whose last sign is the 1,000th, and one whose last sign is beyond
        Check.due("just in", fed("nest 1 " + " ".repeat(992) + ";").cupboard(), 0);
        Check.due("just beyond", fed("nest 1 " + " ".repeat(993) + ";").cupboard(), 1 + 16 * 1000);
        Check.due("a WORD cut off", fed(" ".repeat(995) + "bowl top").cupboard(), 1 + 16 * 1000);
        Check.due("a NUMBER cut off", fed("nest" + " ".repeat(995) + "9;").cupboard(), 1 + 16 * 1000);
    }

    private static void whichSigns() {
        Check.says("10 and 32 .. 126; what reads it takes it: it is empty then.");
        for (int sign = 0; sign < 256; sign++) {
            int due = sign == 10 || sign >= 32 && sign <= 126 ? 1 : 0;
            Check.due("highest byte " + sign, new BowlShelf().feed((long) sign << 56, 0L, 0L), due);
            Check.due("lowest byte " + sign, new BowlShelf().feed(0L, 0L, sign), due);
            Check.due("in the middle " + sign, new BowlShelf().feed(0L, (long) sign << 24, 0L), due);
        }
    }

    private static void takenByReading() {
        Check.says("what reads it takes it: it is empty then.");
        BowlShelf x = fed(KK);
        Check.due("read", x.cupboard(), 0);
        Check.due("empty", x.count(5), 0);
        Check.feed(x, "top kk ; nonsense");
        Check.due("a FAULT takes it, too", x.cupboard(), 2 + 16 * 4);
        Check.due("empty", x.count(5), 0);
        Check.feed(x, "   ");
        Check.due("blanks", x.cupboard(), 0);
        Check.due("empty", x.count(5), 0);
        Check.due("an empty one", x.cupboard(), 0);
        Check.due("still empty", x.count(5), 0);
        Check.due("from the start again", Check.feed(x, "bowl"), 4);
        Check.due("place 4 is the end", x.cupboard(), 1 + 16 * 4);
        BowlShelf full = fed(" ".repeat(1000));
        full.cupboard();
        Check.due("room again", full.feed(BLANKS, BLANKS, BLANKS), 24);
    }

    private static void behindTheTape() {
        Check.says("Up to 24 signs come behind the TAPE");
        BowlShelf x = new BowlShelf();
        Check.due("none", x.feed(0L, 0L, 0L), 0);
        Check.due("24", x.feed(0x626F776C206B6B20L, 0x7769646520352064L, 0x6565702035207765L), 24);
        Check.due("24 more", x.feed(0x6967687420352062L, 0x6561727320352062L, 0x7265616B7320353BL), 48);
        Check.due("read as one", x.cupboard(), 0);
        Check.due("one bowl", x.count(0), 1);
        Check.due("wide", x.ware(0, 0), 5);
    }

    private static void highestFirst() {
        Check.says("the bytes of a, b, c, of each the highest first");
        long bowl = 0x626F776C206B6B20L;
        long wide = 0x7769646520313030L;
        BowlShelf x = new BowlShelf();
        x.feed(bowl, wide, 0L);
        Check.due("a, b", x.cupboard(), 4 + 16 * 13);
        x.feed(0L, bowl, wide);
        Check.due("b, c", x.cupboard(), 4 + 16 * 13);
        x.feed(bowl, 0L, wide);
        Check.due("a, c", x.cupboard(), 4 + 16 * 13);
        x.feed(wide, bowl, 0L);
        Check.due("the other way", x.cupboard(), 1);
        // "top" with the highest sign bit of a long in a byte that is left out
        x.feed(0xFF746F7000000000L, 0L, 0L);
        Check.due("top", x.cupboard(), 1 + 16 * 3);
    }

    private static void leftOut() {
        Check.says("others than 10 and 32 .. 126, and what is beyond 1,000, are left out");
        BowlShelf x = new BowlShelf();
        Check.due("t 0 o 127 p 255", x.feed(0x74006F7F70FF0000L, 0x090B0C0D1F808100L, -1L), 3);
        Check.due("no gap is left: the WORD top", x.cupboard(), 1 + 16 * 3);
        BowlShelf y = fed(" ".repeat(992));
        Check.due("8 of 24", y.feed(0x626F776C20202020L, 0x746F700000000000L, BLANKS), 1000);
        Check.due("bowl is in, top is not", y.cupboard(), 1 + 16 * 1000);
        BowlShelf z = fed(" ".repeat(999));
        Check.due("what is left out takes no room", z.feed(0x0001020304050607L, 0x080900007F80FF3BL, 0x3B3B3B3B3B3B3B3BL), 1000);
        Check.due("the sign", z.cupboard(), 1 + 16 * 999);
    }

    private static void howManyThereAre() {
        Check.says("are left out: how many there are.");
        BowlShelf x = new BowlShelf();
        Check.due("one", x.feed(0x4100000000000000L, 0L, 0L), 1);
        Check.due("three", x.feed(0x4100000000000000L, 0L, 0x41L), 3);
        Check.due("none more", x.feed(0L, -1L, 0L), 3);
        Check.due("27", x.feed(BLANKS, BLANKS, BLANKS), 27);
        Check.due("count", x.count(5), 27);
    }

    private static void longestTokens() {
        Check.says("TOKENS, each as long as can be");
        Check.fault("bowlkk wide 5", 1, 0);
        Check.fault("bowl kkwide 5 deep", 1, 12);
        Check.fault("bowl kk wide 1 2 deep", 1, 15);
        Check.fault("bowl kk wide 100", 4, 13);
        Check.fine("nest1;");
        Check.fine("nest 1and 2or not(3)*4-5+6<7;");
        Check.fault("nest 1andnot 2;", 1, 6);
    }

    private static void blanks() {
        Check.says("blanks (10, 32) between where one likes");
        Check.fine("bowl kk wide5deep5weight5bears5breaks5;lid l wide5weight5breaks5;top kk;habit l 5;nest(1);");
        Check.fine("\n\nbowl\nkk \n wide\n5\ndeep\n5\nweight\n5\nbears\n5\nbreaks\n5\n;\n");
        Check.fine("nest ( ( 1 ) ) ;");
        Check.fault("bo wl kk", 1, 0);
        Check.fault("owl kk", 1, 0);
        Check.fault("cowl kk", 1, 0);
        Check.fault("hid kk", 1, 0);
        Check.fault("best 1;", 1, 0);
        Check.fault("bowl\nwide", 1, 5);
        Check.fault("  \n top", 1, 7);
        Check.fault("nest 1 \n 2 ;", 1, 9);
        Check.fault("bowl kk wi\nde 5", 1, 8);
    }

    private static void words() {
        Check.says("WORDS (letters a .. z, 8 at most)");
        for (String name : new String[] {"a", "z", "az", "abcdefgh", "stuvwxyz", "zzzzzzzz"}) {
            Check.fine(KK.replace("kk", name));
        }
        Check.fault(KK.replace("kk", "abcdefghi"), 1, 5);
        Check.fault(KK.replace("kk", "a".repeat(16)), 1, 5);
        Check.fault(KK + "top " + "k".repeat(9), 1, KK.length() + 4);
        Check.fault(KK + "top " + "k".repeat(8), 2, KK.length() + 4);
        for (char sign : new char[] {'A', 'Z', '`', '{', '@', '[', '_'}) {
            Check.fault("bowl " + sign, 1, 5);
            Check.fault("bowl kk" + sign + " wide 5", 1, 7);
        }
    }

    private static void numbers() {
        Check.says("NUMBERS (1 to 4 digits; a letter may stand right behind)");
        Check.fine("nest 0; nest 9; nest 0000; nest 9999;");
        Check.fault("nest 10000;", 1, 5);
        Check.fault("nest 00000;", 1, 5);
        Check.fault("nest 1 + 99999999999999999999;", 1, 9);
        Check.fine("bowl kk wide 0099 deep 001 weight 01 bears 0000 breaks 00;");
        Check.fault("bowl kk wide 00099", 1, 13);
        Check.fine("bowl kk wide9deep9weight9bears9breaks9;");
        Check.fault("bowl kk wide 5x", 1, 14);
        Check.fault("bowl k5 wide 5", 1, 6);
        for (char sign : new char[] {'/', ':', '.', ','}) {
            Check.fault("nest 1" + sign, 1, 6);
            Check.fault("nest " + sign + "1", 1, 5);
        }
    }

    private static void signs() {
        Check.says("the signs ( ) < = + - * ;");
        Check.fine("nest(1<2)=3+4-5*6;");
        for (char sign = 33; sign < 127; sign++) {
            boolean inText = sign >= 'a' && sign <= 'z' || sign >= '0' && sign <= '9' || "(;".indexOf(sign) >= 0;
            if (!inText) {
                Check.fault("nest " + sign, 1, 5);
            }
            if ("<=+-*".indexOf(sign) >= 0) {
                Check.fine("nest 1 " + sign + "1 ;");
            } else if (sign != ';' && sign != ')') {
                Check.fault("nest 1 " + sign + ";", 1, 7);
            }
        }
    }

    private static void allElse() {
        Check.says("All else (a longer WORD or NUMBER, too, at its first sign) is none.");
        Check.fault("bowl bowlbowlbowl", 1, 5);
        Check.fault("bowl kk wide 12345", 1, 13);
        Check.fault("bowlbowlbowl", 1, 0);
        Check.fault("nest innerinner ;", 1, 5);
        Check.fault("nest 1 andandand 1 ;", 1, 7);
        Check.fault("?", 1, 0);
        Check.fault("   ?", 1, 3);
        Check.fault(KK + "~", 1, KK.length());
        Check.fault(KK + "12345", 1, KK.length());
    }
}
