/** Promises 1 to 6 and 29: a new object, the TAPE, the CUPBOARD, what it tells, what MAY stand on what, counts. */
public final class ReadTest {
    private static final String KK = "bowl kk wide 5 deep 5 weight 5 bears 5 breaks 5 ; ";

    private ReadTest() {
    }

    public static void main(String[] args) {
        newObject();
        feed();
        tokens();
        faultsOfStatements();
        faultsOfNumbers();
        faultsOfNames();
        faultsOfTooMany();
        faultsOfNests();
        aFaultLeavesAll();
        aCupboardTakesAll();
        ware();
        shelf();
        mayWithoutNest();
        mayByFacts();
        mayByReckoning();
        count();
        Check.end("ReadTest");
    }

    private static void newObject() {
        BowlShelf x = new BowlShelf();
        for (int what = 0; what < 6; what++) {
            Check.due("new: count " + what, x.count(what), 0);
        }
        Check.due("new: ware", x.ware(0, 0), -1);
        Check.due("new: shelf", x.shelf(0, 0), -1);
        Check.due("new: cost", x.cost(), 0);
        Check.due("new: put", x.put(0, 0, BowlShelf.NONE), 1);
        Check.due("new: mark back", x.mark(0, true), false);
        Check.due("new: needed", x.needed(1), 0);
        Check.due("new: rows", x.rows(0), 0);
        Check.due("NONE", BowlShelf.NONE, -1);
    }

    private static void feed() {
        BowlShelf x = new BowlShelf();
        Check.due("feed nothing", x.feed(0L, 0L, 0L), 0);
        Check.due("feed -1", x.feed(-1L, -1L, -1L), 0);
        Check.due("feed edges", x.feed(0x090A0B1F20217E7FL, 0x80FFC8000D000000L, 0L), 4);
        Check.due("count(5)", x.count(5), 4);
        // 10, ' ', '!', '~': the first that is no blank is wrong, at place 2
        Check.due("cupboard", x.cupboard(), 1 + 16 * 2);
        Check.due("the tape is taken", x.count(5), 0);
        // "top" + "kk" in the first and the last word: the highest byte comes first
        Check.due("feed in order", x.feed(0x746F700000000000L, 0x2000000000000000L, 0x6B6BL), 6);
        Check.due("cupboard", x.cupboard(), 2 + 16 * 4);
        for (int i = 1; i <= 41; i++) {
            Check.due("feed " + i, x.feed(0x2020202020202020L, 0x2020202020202020L, 0x2020202020202020L), 24 * i);
        }
        Check.due("feed beyond 1000", x.feed(0x2020202020202020L, 0x2020202020202020L, 0x2121212121212121L), 1000);
        Check.due("feed beyond 1000", x.feed(0x2121212121212121L, 0x2121212121212121L, 0x2121212121212121L), 1000);
        Check.due("cupboard", x.cupboard(), 0);
        Check.due("after", x.feed(0x2121212121212121L, 0L, 0L), 8);
        // the whole tape counts: the end of a full one is at 1000
        BowlShelf y = new BowlShelf();
        Check.feed(y, "top".concat(" ".repeat(1200)));
        Check.due("end of a full tape", y.cupboard(), 1 + 16 * 1000);
    }

    private static void tokens() {
        Check.fine("");
        Check.fine("  \n \n");
        Check.fine("bowl kk wide5deep5weight5bears5breaks5;");
        Check.fine("bowl\nkk\nwide 0005 deep 05 weight 99 bears 0999 breaks 0;");
        Check.fine("bowl abcdefgh wide 5 deep 5 weight 5 bears 5 breaks 5;");
        Check.fine("nest(1<2)*3=4;");
        Check.fine("nest 1and 2or 3;");
        Check.fault("bowl abcdefghi wide 5 deep 5 weight 5 bears 5 breaks 5;", 1, 5);
        Check.fault("bowl kk wide 00005", 1, 13);
        Check.fault("bowl kk wide 5 deep 12345", 1, 20);
        Check.fault("bowl Kk wide 5", 1, 5);
        Check.fault("bowl kK wide 5", 1, 6);
        Check.fault("nest 1 > 2 ;", 1, 7);
        Check.fault("nest 10000 ;", 1, 5);
        Check.fine("nest 9999 ;");
        Check.fault("bowlkk wide 5", 1, 0);
        Check.fault("bowls kk", 1, 0);
        Check.fault("cowl kk", 1, 0);
        Check.fault("bold kk", 1, 0);
        Check.fault("ttttopkk", 1, 0);
        Check.fault("# bowl", 1, 0);
        Check.fault("top", 1, 3);
        Check.fault("top   ", 1, 6);
        Check.fault(" top \n", 1, 6);
    }

    private static void faultsOfStatements() {
        Check.fault(";", 1, 0);
        Check.fault("5", 1, 0);
        Check.fault("wide", 1, 0);
        Check.fault("not", 1, 0);
        Check.fault("kk", 1, 0);
        Check.fault(KK + "kk", 1, KK.length());
        Check.fault(KK + ";", 1, KK.length());
        Check.fault("bowl", 1, 4);
        Check.fault("bowl 5", 1, 5);
        Check.fault("bowl kk deep 5", 1, 8);
        Check.fault("bowl kk wide", 1, 12);
        Check.fault("bowl kk wide kk", 1, 13);
        Check.fault("bowl kk wide 5 weight", 1, 15);
        Check.fault("bowl kk wide 5 deep 5 bears", 1, 22);
        Check.fault("bowl kk wide 5 deep 5 weight 5 breaks", 1, 31);
        Check.fault("bowl kk wide 5 deep 5 weight 5 bears 5 ;", 1, 39);
        Check.fault("bowl kk wide 5 deep 5 weight 5 bears 5 breaks 5 5", 1, 48);
        Check.fault("bowl kk wide 5 deep 5 weight 5 bears 5 breaks 5", 1, 47);
        Check.fault("lid kk weight", 1, 7);
        Check.fault("lid kk wide 5 deep", 1, 14);
        Check.fault("lid kk wide 5 weight 5 bears", 1, 23);
        Check.fault("shelf kk reach", 1, 9);
        Check.fault("shelf kk height 5 room", 1, 18);
        Check.fault("shelf kk height 5 reach 5 ;", 1, 26);
        Check.fault("shelf kk height 5 reach 5 room 5", 1, 32);
        Check.fault(KK + "top kk top", 1, KK.length() + 7);
        Check.fault(KK + "top kk 5", 1, KK.length() + 7);
        Check.fault(KK + "top ;", 1, KK.length() + 4);
        Check.fault(KK + "habit kk ;", 1, KK.length() + 9);
        Check.fault(KK + "habit kk 5 5", 1, KK.length() + 11);
        Check.fault(KK + "habit 5", 1, KK.length() + 6);
    }

    private static void faultsOfNumbers() {
        String[][] amounts = {
            {"bowl kk wide ", "1", "99"}, {"bowl kk wide 5 deep ", "1", "99"},
            {"bowl kk wide 5 deep 5 weight ", "1", "99"}, {"bowl kk wide 5 deep 5 weight 5 bears ", "0", "999"},
            {"bowl kk wide 5 deep 5 weight 5 bears 5 breaks ", "0", "99"},
            {"lid kk wide ", "1", "99"}, {"lid kk wide 5 weight ", "1", "99"}, {"lid kk wide 5 weight 5 breaks ", "0", "99"},
            {"shelf kk height ", "1", "999"}, {"shelf kk height 5 reach ", "0", "99"},
            {"shelf kk height 5 reach 5 room ", "1", "8"}, {KK + "habit kk ", "0", "99"}};
        for (String[] a : amounts) {
            int least = Integer.parseInt(a[1]);
            int most = Integer.parseInt(a[2]);
            Check.fault(a[0] + least, 1, (a[0] + least).length());
            Check.fault(a[0] + most, 1, (a[0] + most).length());
            Check.fault(a[0] + (most + 1), 4, a[0].length());
            Check.fault(a[0] + "9999", 4, a[0].length());
            if (least > 0) {
                Check.fault(a[0] + "0", 4, a[0].length());
            }
        }
    }

    private static void faultsOfNames() {
        String[] reserved = {"bowl", "lid", "shelf", "top", "habit", "nest", "wide", "deep", "weight", "bears", "breaks",
            "height", "reach", "room", "not", "and", "or"};
        for (String word : reserved) {
            Check.fault("bowl " + word, 1, 5);
            Check.fault("lid " + word, 1, 4);
            Check.fault("shelf " + word, 1, 6);
            Check.fault("top " + word, 1, 4);
            Check.fault("habit " + word, 1, 6);
        }
        String[] free = {"inner", "outer", "low", "light", "heavy", "under", "wides", "o", "lids"};
        for (String word : free) {
            Check.fine(KK.replace("kk", word));
            Check.fine("shelf " + word + " height 5 reach 5 room 5 ;");
        }
        int n = KK.length();
        Check.fault(KK + "bowl kk", 3, n + 5);
        Check.fault(KK + "lid kk", 3, n + 4);
        Check.fault(KK + "shelf kk", 3, n + 6);
        Check.fine(KK + KK.replace("kk", "kl"));
        String shelf = "shelf kk height 5 reach 5 room 5 ; ";
        Check.fault(shelf + "shelf kk", 3, shelf.length() + 6);
        Check.fault(shelf + "bowl kk", 3, shelf.length() + 5);
        Check.fault(shelf + "top kk", 2, shelf.length() + 4);
        Check.fault(shelf + "habit kk", 2, shelf.length() + 6);
        Check.fault("top kk ; " + KK, 2, 4);
        Check.fault(KK + "top kl", 2, n + 4);
        Check.fault(KK + "top k", 2, n + 4);
        Check.fault(KK + "top kk ; top kk ;", 3, n + 13);
        Check.fine(KK + "top kk ; habit kk 0 ;");
        Check.fault(KK + "habit kk 0 ; habit kk 5 ;", 3, n + 19);
    }

    private static void faultsOfTooMany() {
        StringBuilder twelve = new StringBuilder();
        for (int i = 0; i < 12; i++) {
            twelve.append("lid ").append((char) ('a' + i)).append(" wide 5 weight 5 breaks 5 ; ");
        }
        Check.fine(twelve.toString());
        Check.fault(twelve + "bowl", 5, twelve.length());
        Check.fault(twelve + "lid a", 5, twelve.length());
        Check.fine(twelve + "shelf s height 5 reach 5 room 5 ;");
        String four = Check.shelf("a", 1, 0, 1) + Check.shelf("b", 1, 0, 1) + Check.shelf("c", 1, 0, 1)
            + Check.shelf("d", 999, 99, 8);
        Check.fine(four);
        Check.fault(four + "shelf a", 5, four.length());
        Check.fine("nest 1;nest 1;nest 1;nest 1;");
        Check.fault("nest 1;nest 1;nest 1;nest 1;nest", 5, 28);
    }

    private static void faultsOfNests() {
        Check.fault("nest", 1, 4);
        Check.fault("nest ;", 1, 5);
        Check.fault("nest wide ;", 1, 5);
        Check.fault("nest kk ;", 1, 5);
        Check.fault("nest - 1 ;", 1, 5);
        Check.fault("nest 1 2 ;", 1, 7);
        Check.fault("nest 1 inner ;", 1, 7);
        Check.fault("nest 1 + ;", 1, 9);
        Check.fault("nest 1 * < 2 ;", 1, 9);
        Check.fault("nest 1 < 2 < 3 ;", 1, 11);
        Check.fault("nest 1 < 2 = 3 ;", 1, 11);
        Check.fine("nest ( 1 < 2 ) = 3 ;");
        Check.fine("nest 1 < 2 and 1 = 2 or 3 < 4 ;");
        Check.fault("nest 1 and ;", 1, 11);
        Check.fault("nest and 1 ;", 1, 5);
        Check.fault("nest 1 not 1 ;", 1, 7);
        Check.fault("nest ( ) ;", 1, 7);
        Check.fault("nest ( 1 ;", 1, 9);
        Check.fault("nest 1 ) ;", 1, 7);
        Check.fine("nest not not not not 1 ;");
        Check.fine("nest ((((1))));");
        Check.fine("nest (not (not 1));");
        Check.fault("nest not not not not not 1 ;", 5, 25);
        Check.fault("nest not not not not not not 1 ;", 5, 25);
        Check.fault("nest (((((1)))));", 5, 10);
        Check.fault("nest ((((((1))))));", 5, 10);
        Check.fault("nest (((((inner)))));", 5, 10);
        Check.fault("nest ((((());", 1, 10);
        Check.fault("nest (((((wide", 1, 10);
        Check.fault("nest (((((", 1, 10);
        Check.fault("nest 1 + ( 2 * not ( not not 3 ) ) ;", 5, 29);
        Check.fine("nest ( 1 ) + ( 2 ) + not 3 + not ( 4 ) * ( ( ( ( 5 ) ) ) ) ;");
    }

    private static void aFaultLeavesAll() {
        BowlShelf x = Check.told(KK + Check.shelf("s", 9, 1, 2) + "habit kk 7 ; nest 0 ;");
        x.put(0, 0, BowlShelf.NONE);
        x.ask(0);
        x.mark(2, false);
        Check.due("fault", Check.tell(x, "lid zz wide 9 weight 9 breaks 9 ; top zz ; shelf q height 1"), 1 + 16 * 59);
        Check.due("wares", x.count(0), 1);
        Check.due("shelves", x.count(1), 1);
        Check.due("nests", x.count(2), 1);
        Check.due("out", x.count(3), 0);
        Check.due("askings", x.count(4), 1);
        Check.due("wide", x.ware(0, 0), 5);
        Check.due("top", x.ware(0, 7), 0);
        Check.due("habit", x.ware(0, 5), 7);
        Check.due("mark", x.mark(2, true), true);
        Check.due("needed", x.needed(5), 1);
        Check.due("rows", x.rows(0), 1);
    }

    private static void aCupboardTakesAll() {
        BowlShelf x = Check.told(KK + Check.shelf("s", 9, 1, 2) + "habit kk 7 ; top kk ; nest 0 ;");
        x.put(0, 0, BowlShelf.NONE);
        x.ask(0);
        for (int i = 0; i < 4; i++) {
            x.mark(i, false);
        }
        Check.due("needed", x.needed(5), 1);
        Check.due("rows", x.rows(0), 1);
        Check.due("told anew", Check.tell(x, Check.shelf("s", 9, 1, 2) + Check.bowl("a", 9, 2, 3, 4, 5)
            + Check.bowl("kk", 8, 2, 3, 4, 5)), 0);
        Check.due("wares", x.count(0), 2);
        Check.due("nests", x.count(2), 0);
        Check.due("out", x.count(3), 2);
        Check.due("askings", x.count(4), 0);
        Check.due("stacks", x.shelf(0, 3), 0);
        Check.due("habit", x.ware(0, 5), 0);
        Check.due("top", x.ware(0, 7), 0);
        for (int i = 0; i < 4; i++) {
            Check.due("mark " + i, x.mark(i, true), false);
        }
        Check.due("may", x.may(1, 0), 1);
        Check.due("through", x.through(1, 0), 1);
        Check.due("needed", x.needed(3), 1);
        Check.due("rows", x.rows(1), 1);
        Check.due("an empty tape is an empty cupboard", x.cupboard(), 0);
        Check.due("wares", x.count(0), 0);
        Check.due("shelves", x.count(1), 0);
    }

    private static void ware() {
        BowlShelf x = Check.told(Check.bowl("a", 1, 2, 3, 4, 5) + Check.lid("b", 6, 7, 8)
            + "habit b 9 ; top b ; " + Check.bowl("c", 99, 99, 99, 999, 99));
        int[][] all = {{1, 2, 3, 4, 5, 0, 0, 0}, {6, 1, 7, 0, 8, 9, 1, 1}, {99, 99, 99, 999, 99, 0, 0, 0}};
        for (int w = 0; w < 3; w++) {
            for (int what = 0; what < 8; what++) {
                Check.due("ware " + w + " " + what, x.ware(w, what), all[w][what]);
            }
            Check.due("ware what 8", x.ware(w, 8), -1);
            Check.due("ware what -1", x.ware(w, -1), -1);
        }
        Check.due("ware 3", x.ware(3, 0), -1);
        Check.due("ware -1", x.ware(-1, 0), -1);
        Check.due("ware max", x.ware(Integer.MAX_VALUE, 0), -1);
        Check.due("ware min", x.ware(Integer.MIN_VALUE, 0), -1);
    }

    private static void shelf() {
        BowlShelf x = Check.told(KK + Check.shelf("a", 5, 2, 3) + Check.shelf("b", 999, 99, 8));
        int[][] all = {{5, 2, 3, 0}, {999, 99, 8, 0}};
        for (int s = 0; s < 2; s++) {
            for (int what = 0; what < 4; what++) {
                Check.due("shelf " + s + " " + what, x.shelf(s, what), all[s][what]);
            }
            Check.due("shelf what 4", x.shelf(s, 4), -1);
            Check.due("shelf what -1", x.shelf(s, -1), -1);
        }
        x.put(0, 1, BowlShelf.NONE);
        Check.due("stacks", x.shelf(1, 3), 1);
        Check.due("shelf 2", x.shelf(2, 0), -1);
        Check.due("shelf -1", x.shelf(-1, 0), -1);
    }

    private static void mayWithoutNest() {
        BowlShelf x = Check.told(Check.bowl("a", 9, 1, 1, 1, 1) + Check.bowl("b", 8, 1, 1, 1, 1) + Check.lid("c", 8, 1, 1)
            + Check.bowl("d", 7, 1, 1, 1, 1) + "top d ; top a ;");
        Check.due("b on a, a top", x.may(1, 0), 0);
        Check.due("a on b", x.may(0, 1), 0);
        Check.due("as wide", x.may(2, 1), 0);
        Check.due("as wide", x.may(1, 2), 0);
        Check.due("a top on another", x.may(3, 1), 1);
        Check.due("on a lid", x.may(3, 2), 1);
        Check.due("the same", x.may(1, 1), -1);
        Check.due("none such", x.may(4, 1), -1);
        Check.due("none such", x.may(1, 4), -1);
        Check.due("none such", x.may(-1, 1), -1);
        Check.due("none such", x.may(1, -1), -1);
    }

    private static void mayByFacts() {
        String wares = Check.bowl("a", 11, 12, 13, 1, 1) + Check.lid("b", 21, 23, 1);
        String[][] facts = {{"inner", "11", "21"}, {"outer", "21", "11"}, {"low", "12", "1"}, {"deep", "1", "12"},
            {"light", "13", "23"}, {"heavy", "23", "13"}, {"lid", "0", "1"}, {"under", "1", "0"}};
        for (String[] f : facts) {
            // a on b, and b on a
            for (int upper = 0; upper < 2; upper++) {
                BowlShelf x = Check.told(wares + "nest " + f[0] + " = " + f[1 + upper] + " ;");
                Check.due(f[0] + " of " + upper, x.may(upper, 1 - upper), 1);
                Check.due(f[0] + " of " + (1 - upper), x.may(1 - upper, upper), f[1].equals(f[2]) ? 1 : 0);
            }
        }
        BowlShelf x = Check.told("nest inner = 11 ; " + wares + "nest 1 ; nest under ;");
        Check.due("no nest's E is 0", x.may(0, 1), 1);
        Check.due("one is", x.may(1, 0), 0);
        Check.due("top stays so", Check.told(wares + "nest 1 ; top b ;").may(0, 1), 0);
    }

    private static void holds(String e, int want) {
        BowlShelf x = Check.told(Check.bowl("a", 11, 12, 13, 1, 1) + Check.lid("b", 21, 23, 1) + "nest " + e + " ;");
        Check.due("a on b by " + e, x.may(0, 1), want);
    }

    private static void mayByReckoning() {
        holds("0", 0);
        holds("7", 1);
        holds("3 - 4", 1);
        holds("3 - 3", 0);
        holds("3 - 1 - 1 = 1", 1);
        holds("2 + 3 * 4 = 14", 1);
        holds("2 * 3 + 4 = 10", 1);
        holds("10 - 2 * 3 - 1 = 3", 1);
        holds("( 2 + 3 ) * 4 = 20", 1);
        holds("not 0", 1);
        holds("not 5", 0);
        holds("not 0 + 1 = 2", 1);
        holds("not 0 * 0", 0);
        holds("not ( 0 * 0 )", 1);
        holds("not not 7 = 1", 1);
        holds("( 1 < 2 ) = 1", 1);
        holds("( 2 < 2 ) = 0", 1);
        holds("( 5 and 7 ) = 1", 1);
        holds("( 0 or 7 ) = 1", 1);
        holds("0 or 0", 0);
        holds("1 or 0", 1);
        holds("5 or 0", 1);
        holds("1 or 1", 1);
        holds("( 3 = 3 ) = 1", 1);
        holds("( 3 = 4 ) = 0", 1);
        holds("1 ; nest 0", 0);
        holds("0 ; nest 1", 0);
        holds("1 ; nest 1", 1);
        holds("1 ; nest 0 ; nest 1", 0);
        holds("1 ; nest 1 ; nest 1 ; nest 3 - 3", 0);
        holds("1 ; nest 1 - 2 ; nest 2 * 1 ; nest not 0", 1);
        holds("0 and 1 or 1", 1);
        holds("1 or 1 and 0", 0);
        holds("1 or 0 and 0", 0);
        holds("0 or 0 and 1 or 1", 1);
        holds("1 < 2 and 2 < 1", 0);
        holds("inner < outer and light < heavy", 1);
        holds("0 - 1 < 0", 1);
        // 10,000,000,000 is 1,410,065,408 in an int; 65,536 * 65,536 is 0
        holds("1000 * 1000 * 1000 * 10 = 1410 * 1000 * 1000 + 65 * 1000 + 408", 1);
        holds("256 * 256 * 256 * 256", 0);
        holds("128 * 256 * 256 * 256 < 0", 1);
        holds("128 * 256 * 256 * 256 - 1 < 0", 0);
    }

    private static void count() {
        BowlShelf x = Check.told(KK + Check.lid("b", 1, 1, 1) + Check.shelf("s", 9, 1, 2) + "nest 1 ; nest 2 ;");
        x.put(1, 0, BowlShelf.NONE);
        x.ask(0);
        x.ask(0);
        x.ask(1);
        Check.feed(x, "abcd");
        int[] all = {2, 1, 2, 1, 3, 4};
        for (int what = 0; what < 6; what++) {
            Check.due("count " + what, x.count(what), all[what]);
        }
        Check.due("count 6", x.count(6), -1);
        Check.due("count -1", x.count(-1), -1);
        Check.due("count max", x.count(Integer.MAX_VALUE), -1);
    }
}
