/** The language of a CUPBOARD and its FAULTS: each sentence of the document that names an edge, and answers due by it. */
public final class EdgeCupboardTest {
    private static final String KK = "bowl kk wide 5 deep 5 weight 5 bears 5 breaks 5 ; ";
    private static final String[] RESERVED = {"bowl", "lid", "shelf", "top", "habit", "nest", "wide", "deep", "weight", "bears",
        "breaks", "height", "reach", "room", "not", "and", "or"};

    private EdgeCupboardTest() {
    }

    public static void main(String[] args) {
        anyNumber();
        mostWares();
        amounts();
        lids();
        shelves();
        tops();
        habits();
        nests();
        names();
        noTwoAlike();
        chains();
        tests();
        sumsAndProducts();
        parts();
        depth();
        facts();
        truth();
        wrapAround();
        placeOfAFault();
        firstAndLeast();
        cantStand();
        untold();
        toldAlready();
        wrongNumber();
        tooMany();
        aNewCupboard();
        fromThenOn();
        nestsFromThenOn();
        allStays();
        ofAWare();
        ofAShelf();
        counts();
        Check.end("EdgeCupboardTest");
    }

    private static String wares(int n) {
        StringBuilder text = new StringBuilder();
        for (int i = 0; i < n; i++) {
            text.append(i % 2 == 0 ? "bowl " : "lid ").append((char) ('a' + i)).append(" wide ").append(10 + i)
                .append(i % 2 == 0 ? " deep 5 weight 5 bears 5 breaks 5;" : " weight 5 breaks 5;");
        }
        return text.toString();
    }

    private static String shelvesOf(int n) {
        StringBuilder text = new StringBuilder();
        for (int i = 0; i < n; i++) {
            text.append(Check.shelf("s" + (char) ('a' + i), 10 + i, i, 1 + i));
        }
        return text.toString();
    }

    /** What MAY answers of 0 on 1 by an E: 0 is 11 wide, 12 deep, weighs 13; 1 is a lid, 21 wide, weighs 23. */
    private static void comes(String e, int want) {
        BowlShelf x = Check.told(Check.bowl("a", 11, 12, 13, 1, 1) + Check.lid("b", 21, 23, 1) + "nest " + e + " ;");
        Check.due("0 on 1 by " + e, x.may(0, 1), want);
    }

    private static void anyNumber() {
        Check.says("CUPBOARD: any number of");
        BowlShelf x = Check.told(KK + "nest 1;");
        Check.due("none", Check.tell(x, ""), 0);
        Check.row("all is gone", new int[] {x.count(0), x.count(1), x.count(2)}, 0, 0, 0);
        Check.due("blanks alone", Check.tell(x, " \n \n "), 0);
        Check.fine("nest 1; shelf s height 1 reach 0 room 1;" + KK + "habit kk 1; top kk; lid l wide 1 weight 1 breaks 0; top l;");
        Check.fine(wares(12).replace(" weight 5 bears 5 breaks 5", " weight5bears5breaks5") + "shelf s height 1 reach 0 room 1;");
        Check.fault(KK + "; ", 1, KK.length());
    }

    private static void mostWares() {
        Check.says("bowl, lid: WARES, 12 at most together, numbered as told");
        BowlShelf x = Check.told(wares(12));
        Check.due("twelve", x.count(0), 12);
        for (int w = 0; w < 12; w++) {
            Check.due("wide of " + w, x.ware(w, 0), 10 + w);
            Check.due("a lid is " + w, x.ware(w, 6), w % 2);
        }
        Check.due("no 13th", x.ware(12, 0), -1);
        Check.due("11 and a lid", Check.told(wares(11) + "lid zz wide 1 weight 1 breaks 1;").count(0), 12);
        Check.due("11 and a bowl", Check.told(wares(11) + KK).count(0), 12);
        Check.fault(wares(12) + KK, 5, wares(12).length());
        Check.fault(wares(12) + "lid zz wide 1 weight 1 breaks 1;", 5, wares(12).length());
    }

    private static void amounts() {
        Check.says("wide, deep, weight 1 to 99, bears 0 to 999, breaks 0 to 99");
        String[] bowl = {"bowl kk wide ", " deep ", " weight ", " bears ", " breaks "};
        int[] least = {1, 1, 1, 0, 0};
        int[] most = {99, 99, 99, 999, 99};
        for (int k = 0; k < 5; k++) {
            String text = bowlTo(bowl, k);
            edges(text, bowlFrom(bowl, k), least[k], most[k], k);
        }
        edges("lid kk wide ", " weight 5 breaks 5 ;", 1, 99, 0);
        edges("lid kk wide 5 weight ", " breaks 5 ;", 1, 99, 2);
        edges("lid kk wide 5 weight 5 breaks ", " ;", 0, 99, 4);
    }

    private static String bowlTo(String[] bowl, int k) {
        StringBuilder text = new StringBuilder();
        for (int i = 0; i <= k; i++) {
            text.append(bowl[i]).append(i < k ? "5" : "");
        }
        return text.toString();
    }

    private static String bowlFrom(String[] bowl, int k) {
        StringBuilder text = new StringBuilder();
        for (int i = k + 1; i < bowl.length; i++) {
            text.append(bowl[i]).append("5");
        }
        return text + " ;";
    }

    /** The least and the most are held, what is one beyond is wrong at its place. */
    private static void edges(String before, String behind, int least, int most, int what) {
        Check.due(before + least, Check.told(before + least + behind).ware(0, what), least);
        Check.due(before + most, Check.told(before + most + behind).ware(0, what), most);
        Check.fault(before + (most + 1) + behind, 4, before.length());
        Check.fault(before + 9999 + behind, 4, before.length());
        Check.fault(before + 10000 + behind, 1, before.length());
        if (least > 0) {
            Check.fault(before + (least - 1) + behind, 4, before.length());
        }
        Check.fault(before + "- 1" + behind, 1, before.length());
    }

    private static void lids() {
        Check.says("a lid is 1 deep and bears 0");
        BowlShelf x = Check.told(Check.bowl("a", 50, 50, 50, 500, 50) + Check.lid("b", 99, 99, 99) + Check.lid("c", 1, 1, 0));
        Check.row("b", new int[] {x.ware(1, 0), x.ware(1, 1), x.ware(1, 2), x.ware(1, 3), x.ware(1, 4)}, 99, 1, 99, 0, 99);
        Check.row("c", new int[] {x.ware(2, 0), x.ware(2, 1), x.ware(2, 2), x.ware(2, 3), x.ware(2, 4)}, 1, 1, 1, 0, 0);
        Check.fault("lid kk wide 5 deep 1 weight", 1, 14);
        Check.fault("lid kk wide 5 weight 5 bears 0 breaks", 1, 23);
        // told anew, the first one is a bowl where a lid was and the other way round
        Check.tell(x, Check.lid("a", 9, 9, 9) + Check.bowl("b", 8, 7, 6, 5, 4));
        Check.row("a", new int[] {x.ware(0, 1), x.ware(0, 3), x.ware(0, 6)}, 1, 0, 1);
        Check.row("b", new int[] {x.ware(1, 1), x.ware(1, 3), x.ware(1, 6)}, 7, 5, 0);
    }

    private static void shelves() {
        Check.says("shelf: 4 at most, numbered as told; height 1 to 999, reach 0 to 99, room 1 to 8.");
        BowlShelf x = Check.told(shelvesOf(4));
        for (int s = 0; s < 4; s++) {
            Check.row("shelf " + s, new int[] {x.shelf(s, 0), x.shelf(s, 1), x.shelf(s, 2)}, 10 + s, s, 1 + s);
        }
        Check.due("no fifth", x.shelf(4, 0), -1);
        Check.fault(shelvesOf(4) + Check.shelf("t", 1, 1, 1), 5, shelvesOf(4).length());
        shelfEdges("shelf kk height ", " reach 5 room 5 ;", 1, 999, 0);
        shelfEdges("shelf kk height 5 reach ", " room 5 ;", 0, 99, 1);
        shelfEdges("shelf kk height 5 reach 5 room ", " ;", 1, 8, 2);
    }

    private static void shelfEdges(String before, String behind, int least, int most, int what) {
        Check.due(before + least, Check.told(before + least + behind).shelf(0, what), least);
        Check.due(before + most, Check.told(before + most + behind).shelf(0, what), most);
        Check.fault(before + (most + 1) + behind, 4, before.length());
        if (least > 0) {
            Check.fault(before + (least - 1) + behind, 4, before.length());
        }
    }

    private static void tops() {
        Check.says("top: a WARE, once each.");
        String two = wares(2);
        BowlShelf x = Check.told(two + "top b ; top a ;");
        Check.row("both", new int[] {x.ware(0, 7), x.ware(1, 7)}, 1, 1);
        Check.fault(two + "top a ; top b ; top a ;", 3, two.length() + 20);
        Check.fault(two + "top b ; top b ;", 3, two.length() + 12);
        Check.fault(two + shelvesOf(1) + "top sa ;", 2, two.length() + shelvesOf(1).length() + 4);
        Check.due("twelve tops", Check.tell(x, tops(12)), 0);
        Check.due("the 12th", x.ware(11, 7), 1);
        Check.due("as long as it is not told", Check.told(two).ware(0, 7), 0);
    }

    private static String tops(int n) {
        StringBuilder text = new StringBuilder(wares(n));
        for (int i = 0; i < n; i++) {
            text.append("top ").append((char) ('a' + i)).append(';');
        }
        return text.toString();
    }

    private static void habits() {
        Check.says("habit: a WARE, 0 to 99 (0 without), once each.");
        String three = wares(3);
        BowlShelf x = Check.told(three + "habit c 99 ; habit b 0 ;");
        Check.row("habits", new int[] {x.ware(0, 5), x.ware(1, 5), x.ware(2, 5)}, 0, 0, 99);
        Check.fault(three + "habit a 100 ;", 4, three.length() + 8);
        Check.fault(three + "habit a 1 ; habit a 1 ;", 3, three.length() + 18);
        Check.fault(three + "habit a 0 ; habit a 1 ;", 3, three.length() + 18);
        Check.fault(three + "habit a 0 ; habit b 1 ; habit a 1 ;", 3, three.length() + 30);
        Check.fault(three + "habit a ;", 1, three.length() + 8);
        Check.due("told anew, without", Check.tell(x, three), 0);
        Check.due("0 without", x.ware(2, 5), 0);
    }

    private static void nests() {
        Check.says("nest: 4 at most.");
        Check.due("four", Check.told("nest 1; nest 1; nest 1; nest 1;").count(2), 4);
        Check.fault("nest 1; nest 1; nest 1; nest 1; nest 1;", 5, 32);
        Check.fault("nest 1; nest 1; nest 1; nest 1; nest", 5, 32);
        Check.fault("nest 1; nest 1; nest 1; nest 1; nest wide", 5, 32);
        Check.fault("nest 1; nest 1; nest 1; nest wide", 1, 29);
    }

    private static void names() {
        Check.says("A NAME is another WORD than bowl, lid, shelf, top, habit, nest, wide, deep, weight, bears, breaks, "
            + "height, reach, room, not, and, or");
        for (String word : RESERVED) {
            Check.fault("bowl " + word + " wide 5", 1, 5);
            Check.fault("lid " + word + " wide 5", 1, 4);
            Check.fault("shelf " + word + " height 5", 1, 6);
            Check.fault("top " + word + " ;", 1, 4);
            Check.fault("habit " + word + " 5 ;", 1, 6);
            if (word.length() < 8) {
                Check.fine(KK.replace("kk", word + "s"));
            }
            Check.fine(KK.replace("kk", word.substring(1)));
            Check.fine(KK.replace("kk", "z" + word.substring(1)));
            Check.fine(KK.replace("kk", word.substring(0, word.length() - 1) + "z"));
        }
        for (String fact : new String[] {"inner", "outer", "low", "light", "heavy", "under"}) {
            Check.fine(KK.replace("kk", fact) + "top " + fact + " ; nest " + fact + " ;");
        }
        Check.fault("bowl 5 wide", 1, 5);
        Check.fault("bowl ( wide", 1, 5);
    }

    private static void noTwoAlike() {
        Check.says("no two WARES or shelves are alike.");
        String[] first = {KK, "lid kk wide 5 weight 5 breaks 5 ; ", "shelf kk height 5 reach 5 room 5 ; "};
        String[] again = {"bowl", "lid", "shelf"};
        for (String one : first) {
            for (String word : again) {
                Check.fault(one + word + " kk", 3, one.length() + word.length() + 1);
                Check.fault(one + word + " kkk", 1, one.length() + word.length() + 4);
                Check.fault(one + word + " k", 1, one.length() + word.length() + 2);
            }
        }
        Check.fault(wares(11) + "lid a", 3, wares(11).length() + 4);
        Check.fault(wares(11) + "lid k", 3, wares(11).length() + 4);
        Check.fault(shelvesOf(3) + "shelf sc", 3, shelvesOf(3).length() + 6);
        // short ones of the first letters, which a careless sum would take for one another
        StringBuilder few = new StringBuilder();
        for (String name : new String[] {"a", "aa", "aaa", "aaaaaaaa", "b", "ba", "ab", "bb", "z", "zz"}) {
            few.append("lid ").append(name).append(" wide 5 weight 5 breaks 5;");
        }
        Check.fine(few.toString());
        // eight letters that differ in the last or in the first alone
        Check.fine(KK.replace("kk", "aaaaaaaa") + KK.replace("kk", "aaaaaaab") + KK.replace("kk", "baaaaaaa"));
        // what an earlier CUPBOARD told is told no more
        BowlShelf x = Check.told(KK + shelvesOf(1));
        Check.due("again", Check.tell(x, KK + shelvesOf(1)), 0);
        Check.due("not here", Check.tell(x, shelvesOf(1) + "top kk ;"), 2 + 16 * (shelvesOf(1).length() + 4));
    }

    private static void chains() {
        Check.says("E: TEST { and TEST or or TEST }, from the left");
        comes("0 and 0 or 1", 1);
        comes("1 or 1 and 0", 0);
        comes("1 or 0 and 0 or 0", 0);
        comes("0 or 1 and 1", 1);
        comes("0 and 1 or 1 and 1", 1);
        comes("1 < 2 and 2 < 3 and 3 < 4", 1);
        comes("1 < 2 and 2 < 3 and 4 < 4", 0);
        Check.fault("nest 1 and", 1, 10);
        Check.fault("nest or 1 ;", 1, 5);
        Check.fault("nest 1 and or 1 ;", 1, 11);
        Check.fault("nest ;", 1, 5);
        StringBuilder longest = new StringBuilder("nest 0");
        while (longest.length() < 994) {
            longest.append("or 0");
        }
        Check.fine(longest + ";");
    }

    private static void tests() {
        Check.says("TEST: SUM, or SUM < SUM, or SUM = SUM");
        comes("5", 1);
        comes("1 < 2", 1);
        comes("2 < 2", 0);
        comes("3 < 2", 0);
        comes("2 = 2", 1);
        comes("2 = 3", 0);
        Check.fault("nest 1 < 2 < 3 ;", 1, 11);
        Check.fault("nest 1 = 2 = 3 ;", 1, 11);
        Check.fault("nest 1 < 2 = 3 ;", 1, 11);
        Check.fault("nest 1 < ;", 1, 9);
        Check.fault("nest < 1 ;", 1, 5);
        Check.fault("nest 1 < = 1 ;", 1, 9);
        comes("( 1 < 2 ) < 3", 1);
    }

    private static void sumsAndProducts() {
        Check.says("SUM: PRODUCT { + or - PRODUCT }; PRODUCT: PART { * PART }");
        comes("10 - 4 - 3 = 3", 1);
        comes("10 - 4 + 3 = 9", 1);
        comes("2 + 3 * 4 - 5 * 2 = 4", 1);
        comes("2 * 3 * 4 = 24", 1);
        comes("2 * ( 3 + 4 ) = 14", 1);
        Check.fault("nest - 1 ;", 1, 5);
        Check.fault("nest 1 - - 1 ;", 1, 9);
        Check.fault("nest 1 + ;", 1, 9);
        Check.fault("nest * 1 ;", 1, 5);
        Check.fault("nest 1 * * 1 ;", 1, 9);
        StringBuilder longest = new StringBuilder("nest 1");
        for (int i = 0; i < 496; i++) {
            longest.append(i % 2 == 0 ? "+1" : "*1");
        }
        BowlShelf x = Check.told(longest + ";");
        Check.due("as long as the TAPE is", x.count(2), 1);
    }

    private static void parts() {
        Check.says("PART: a NUMBER, a fact, not PART, ( E )");
        comes("0", 0);
        comes("9999", 1);
        comes("inner", 1);
        comes("not 0", 1);
        comes("( 0 or 1 )", 1);
        // not takes a PART alone, not what is joined to it
        comes("not 0 + 1 = 2", 1);
        comes("not 1 * 0", 0);
        comes("not 1 < 1", 1);
        Check.fault("nest not ;", 1, 9);
        Check.fault("nest ( ) ;", 1, 7);
        Check.fault("nest ( 1 ;", 1, 9);
        Check.fault("nest 1 ) ;", 1, 7);
        Check.fault("nest ( 1 ) 1 ;", 1, 11);
        Check.fault("nest 1 ( 1 ) ;", 1, 7);
        Check.fault("nest kk ;", 1, 5);
        for (String word : RESERVED) {
            if (!word.equals("deep") && !word.equals("lid") && !word.equals("not")) {
                Check.fault("nest " + word + " ;", 1, 5);
            }
        }
    }

    private static void depth() {
        Check.says("no PART lies within 5 of not and ( ).");
        comes("((((1))))", 1);
        comes("not not not not 1", 1);
        comes("not ( not ( 1 ) ) and ((((1)))) and not not(not 0)", 1);
        Check.fault("nest (((((1)))));", 5, 10);
        Check.fault("nest not not not not not 1 ;", 5, 25);
        Check.fault("nest not(not(not 1));", 5, 17);
        Check.fault("nest not(not(not inner));", 5, 17);
        Check.fault("nest not(not((1)));", 5, 14);
        Check.fault("nest ((((not 1))));", 5, 13);
        Check.fault("nest not not not not ( 1 );", 5, 23);
        Check.fault("nest ((((1+(2)))));", 5, 12);
        Check.fine("nest ((((1))))+((((2))))*not not not not 3;");
        Check.fault("nest ((((1))))+(((((2)))));", 5, 20);
    }

    private static void facts() {
        Check.says("inner, outer (how wide the upper, the lower one is), low, deep (how deep the upper, the lower one is), "
            + "light, heavy (what the upper, the lower one weighs), lid, under (1 if the upper, the lower one is a lid, else 0).");
        comes("inner = 11 and outer = 21", 1);
        comes("low = 12 and deep = 1", 1);
        comes("light = 13 and heavy = 23", 1);
        comes("lid = 0 and under = 1", 1);
        BowlShelf x = Check.told(Check.bowl("a", 11, 12, 13, 1, 1) + Check.lid("b", 21, 23, 1)
            + "nest inner = 21 and outer = 11 and low = 1 and deep = 12 and light = 23 and heavy = 13 and lid = 1 and under = 0 ;");
        Check.row("1 on 0 alone", new int[] {x.may(1, 0), x.may(0, 1)}, 1, 0);
    }

    private static void truth() {
        Check.says("Of not, and, or, < and = comes 1 or 0; what is not 0 is so");
        comes("( not 0 ) = 1", 1);
        comes("( not 7 ) = 0", 1);
        comes("( 7 and 9 ) = 1", 1);
        comes("( 7 and 0 ) = 0", 1);
        comes("( 0 or 9 ) = 1", 1);
        comes("( 9 or 0 ) = 1", 1);
        comes("( 0 or 0 ) = 0", 1);
        comes("( 1 < 3 ) = 1", 1);
        comes("( 3 < 1 ) = 0", 1);
        comes("( 7 = 7 ) = 1", 1);
        comes("( 7 = 8 ) = 0", 1);
        comes("( 0 - 1 ) and 1", 1);
        comes("0 - 1", 1);
        comes("0 or 0 - 1", 1);
        comes("not ( 0 - 1 )", 0);
    }

    private static void wrapAround() {
        Check.says("ints wrap.");
        comes("8192 * 8192 * 32 < 0", 1);
        comes("8192 * 8192 * 32 - 1 < 0", 0);
        comes("8192 * 8192 * 32 - 1 + 1 < 0", 1);
        comes("8192 * 8192 * 64", 0);
        comes("8192 * 8192 * 64 = 0", 1);
        comes("0 - 8192 * 8192 * 32 = 8192 * 8192 * 32", 1);
        comes("( 8192 * 8192 * 32 ) * ( 0 - 1 ) < 0", 1);
        // 999,700,029,999 is 1,027,349,969 less than 233 times 2 to the 32nd
        comes("9999 * 9999 * 9999 = 0 - 1027 * 1000 * 1000 - 349 * 1000 - 969", 1);
        comes("not ( 8192 * 8192 * 64 )", 1);
    }

    private static void placeOfAFault() {
        Check.says("FAULTS, kind + 16 * the place (from 0) of a token, the end being one at the text's length");
        Check.fault("x", 1, 0);
        Check.fault(" x", 1, 1);
        Check.fault("bowl", 1, 4);
        Check.fault("bowl  ", 1, 6);
        Check.fault("bowl \n", 1, 6);
        Check.fault(" \nbowl x wide", 1, 13);
        Check.fault(" ".repeat(999) + "x", 1, 999);
        Check.fault(" ".repeat(996) + "bowl", 1, 1000);
        Check.fault("nest(" + " ".repeat(995), 1, 1000);
    }

    private static void firstAndLeast() {
        Check.says("of the first token from the left that is wrong the least");
        Check.fault("top zz ? ;", 2, 4);
        Check.fault(KK + "top zz ; top kk ; top kk ;", 2, KK.length() + 4);
        Check.fault("bowl kk wide 0 deep 0 weight 0", 4, 13);
        Check.fault("bowl kk wide 0 ?", 4, 13);
        // a token that can't stand there is 1, whatever else it may be
        Check.fault("nest (((((wide", 1, 10);
        Check.fault("nest (((((", 1, 10);
        Check.fault("nest (((((?", 1, 10);
        Check.fault("nest (((((12345", 1, 10);
        Check.fault("nest not not not not not ;", 1, 25);
        Check.fault("bowl kk wide 12345", 1, 13);
        Check.fault(KK + "bowl abcdefghi", 1, KK.length() + 5);
        Check.fault("top abcdefghi", 1, 4);
        Check.fault(wares(12) + "bowl a", 5, wares(12).length());
        Check.fault(wares(12) + "bowls a", 1, wares(12).length());
        Check.fault(wares(12) + "wide", 1, wares(12).length());
        Check.fault("nest (((((not", 5, 10);
    }

    private static void cantStand() {
        Check.says("1 it is none, or can't stand there");
        String[] bowl = {"bowl", "kk", "wide", "5", "deep", "5", "weight", "5", "bears", "5", "breaks", "5", ";"};
        String[] lid = {"lid", "kk", "wide", "5", "weight", "5", "breaks", "5", ";"};
        String[] shelf = {"shelf", "kk", "height", "5", "reach", "5", "room", "5", ";"};
        for (String[] statement : new String[][] {bowl, lid, shelf}) {
            for (int i = 0; i < statement.length; i++) {
                StringBuilder before = new StringBuilder();
                for (int k = 0; k < i; k++) {
                    before.append(statement[k]).append(' ');
                }
                for (String other : new String[] {"?", "<", "(", "and", "12345", "abcdefghi", i == 1 ? "wide" : "kkk"}) {
                    Check.fault(before + other, 1, before.length());
                }
                if (i > 0) {
                    Check.fault(before.toString(), 1, before.length());
                    String next = i + 1 < statement.length ? statement[i + 1] : "5";
                    Check.fault(before + next, 1, before.length());
                }
            }
        }
    }

    private static void untold() {
        Check.says("2 a NAME of no WARE told (behind top, habit)");
        int n = KK.length();
        Check.fault("top kk ;", 2, 4);
        Check.fault("habit kk 5 ;", 2, 6);
        Check.fault(KK + "top k ;", 2, n + 4);
        Check.fault(KK + "top kkk ;", 2, n + 4);
        Check.fault(KK + "habit kl 5 ;", 2, n + 6);
        Check.fault("top kk ; " + KK, 2, 4);
        Check.fault("shelf s height 5 reach 5 room 5 ; top s ;", 2, 38);
        Check.fault("shelf s height 5 reach 5 room 5 ; habit s 5 ;", 2, 40);
        Check.fault("top inner ;", 2, 4);
    }

    private static void toldAlready() {
        Check.says("3 a NAME told already (behind bowl, lid, shelf), a WARE's top, habit told already (at its NAME)");
        int n = KK.length();
        Check.fault(KK + KK, 3, n + 5);
        Check.fault(KK + "shelf kk height 0", 3, n + 6);
        Check.fault(KK + "top kk ; top kk ?", 3, n + 13);
        Check.fault(KK + "habit kk 5 ; habit kk 100", 3, n + 19);
        Check.fine(KK + "habit kk 5 ; top kk ;");
        Check.fine(KK + "top kk ; habit kk 5 ;");
    }

    private static void wrongNumber() {
        Check.says("4 a NUMBER that is not as told");
        Check.fault("lid kk wide 0 weight 5", 4, 12);
        Check.fault("shelf kk height 1000 reach 5", 4, 16);
        Check.fault("shelf kk height 999 reach 100 room 5", 4, 26);
        Check.fault("shelf kk height 999 reach 99 room 9", 4, 34);
        Check.fault("shelf kk height 999 reach 99 room 0", 4, 34);
        Check.fault(KK + "habit kk 100 ;", 4, KK.length() + 9);
        Check.fine("nest 9999 ; nest 0 ;");
    }

    private static void tooMany() {
        Check.says("5 one too many: the words bowl, lid of a 13th WARE, shelf of a fifth, nest of a fifth; not, or a PART, within 5 others.");
        Check.fault(wares(12) + "bowl", 5, wares(12).length());
        Check.fault(wares(12) + "lid", 5, wares(12).length());
        Check.fault(shelvesOf(4) + "shelf", 5, shelvesOf(4).length());
        Check.fault("nest 1;nest 1;nest 1;nest 1;nest", 5, 28);
        Check.fault("nest (((((not 1)))));", 5, 10);
        Check.fault("nest (((((1", 5, 10);
        Check.fault("nest (((((lid", 5, 10);
        Check.fault("nest ((((((", 5, 10);
        Check.fine(wares(12) + shelvesOf(4).replace(" ", "\n") + "nest 1;nest 1;nest 1;nest 1;");
    }

    private static void aNewCupboard() {
        Check.says("Without a FAULT it is the CUPBOARD from then on: all WARES are OUT, no ASKING, no MARK is there.");
        String text = wares(4) + Check.shelf("s", 99, 5, 8);
        BowlShelf x = Check.told(text);
        for (int w = 0; w < 4; w++) {
            Check.due("put", x.put(w, 0, -1), 0);
            x.ask(w);
            x.mark(w, false);
        }
        Check.due("the same once more", Check.tell(x, text), 0);
        Check.row("counts", new int[] {x.count(0), x.count(3), x.count(4), x.shelf(0, 3)}, 4, 4, 0, 0);
        for (int w = 0; w < 4; w++) {
            Check.due("no mark", x.mark(w, true), false);
            Check.due("out", x.where(w, 0), -1);
            Check.due("out", x.lift(w), -1);
        }
        Check.row("nothing is asked", new int[] {x.asked(), x.onTop()}, 0, 0);
        Check.due("never lifted", Check.whole(x, 3, 4), 0);
        Check.due("a mark is laid", x.mark(0, false), true);
        Check.due("an empty one", x.cupboard(), 0);
        Check.due("takes it, too", x.mark(0, true), false);
        Check.row("nothing", new int[] {x.count(0), x.count(1), x.count(3)}, 0, 0, 0);
    }

    /** Each CUPBOARD is told three times over, as what is kept of one may be used again two later. */
    private static void fromThenOn() {
        Check.says("Without a FAULT it is the CUPBOARD from then on");
        String rich = Check.lid("a", 9, 9, 9) + Check.bowl("b", 8, 8, 8, 800, 80) + "top a; top b; habit a 7; habit b 8; nest 0;"
            + Check.shelf("s", 99, 9, 8);
        String plain = Check.bowl("p", 5, 4, 3, 200, 10) + Check.lid("q", 4, 2, 1) + Check.bowl("r", 3, 2, 1, 0, 5) + Check.shelf("t", 10, 1, 1);
        BowlShelf x = new BowlShelf();
        for (int n = 0; n < 3; n++) {
            Check.due("rich", Check.tell(x, rich), 0);
            isRich(x);
            Check.due("plain", Check.tell(x, plain), 0);
            isPlain(x);
            Check.due("a FAULT between", Check.tell(x, rich + "lid c wide 1 weight 1 breaks 1; top c; habit c 9; ?") != 0, true);
            isPlain(x);
            Check.due("plain again", Check.tell(x, plain), 0);
            isPlain(x);
        }
    }

    private static void isRich(BowlShelf x) {
        Check.row("counts", new int[] {x.count(0), x.count(1), x.count(2)}, 2, 1, 1);
        Check.row("a", new int[] {x.ware(0, 1), x.ware(0, 3), x.ware(0, 5), x.ware(0, 6), x.ware(0, 7)}, 1, 0, 7, 1, 1);
        Check.row("b", new int[] {x.ware(1, 1), x.ware(1, 3), x.ware(1, 5), x.ware(1, 6), x.ware(1, 7)}, 8, 800, 8, 0, 1);
        Check.row("law", new int[] {x.may(1, 0), x.through(1, 0), x.rows(0), x.rows(1), x.rowOf(1), x.needed(8), x.sorted(3, 99, 0)},
            0, 0, 2, 3, 1, 2, -1);
    }

    private static void isPlain(BowlShelf x) {
        Check.row("counts", new int[] {x.count(0), x.count(1), x.count(2)}, 3, 1, 0);
        Check.row("p", new int[] {x.ware(0, 1), x.ware(0, 3), x.ware(0, 5), x.ware(0, 6), x.ware(0, 7)}, 4, 200, 0, 0, 0);
        Check.row("q", new int[] {x.ware(1, 1), x.ware(1, 3), x.ware(1, 5), x.ware(1, 6), x.ware(1, 7)}, 1, 0, 0, 1, 0);
        Check.row("law", new int[] {x.may(1, 0), x.through(2, 0), x.rows(0), x.rows(1), x.rowOf(2), x.needed(4), x.sorted(3, 4, 1)},
            1, 1, 1, 1, 0, 2, 1);
    }

    private static void nestsFromThenOn() {
        Check.says("it is the CUPBOARD from then on");
        String two = Check.bowl("a", 9, 1, 1, 1, 1) + Check.bowl("b", 8, 1, 1, 1, 1);
        BowlShelf x = new BowlShelf();
        String[] laws = {"nest 0;", "nest 1;", "nest 1; nest 0;", "nest not 0;", "nest 5;", "nest 1 and not 1;", "nest 1 or 0;", ""};
        int[] on = {0, 1, 0, 1, 1, 0, 1, 0};
        for (int i = 0; i < laws.length; i++) {
            Check.due("told", Check.tell(x, two + laws[i]), 0);
            Check.row("0 on 1, 1 on 0 by " + laws[i], new int[] {x.may(0, 1), x.may(1, 0)}, on[i], i == 7 ? 1 : on[i]);
            Check.due("a FAULT in a nest", Check.tell(x, "nest not 1; nest 0 and ?") != 0, true);
        }
    }

    private static void allStays() {
        Check.says("0, or its FAULT (all stays then).");
        BowlShelf x = Check.told(KK + "bowl ll wide 4 deep 3 weight 2 bears 1 breaks 0 ; shelf s height 9 reach 7 room 5 ; habit ll 4 ; nest inner < outer ;");
        Check.row("put", new int[] {x.put(0, 0, -1), x.put(1, 0, 0), x.ask(0), x.rows(0), x.needed(9)}, 0, 0, 1, 1, 1);
        x.mark(3, false);
        String other = "shelf t height 1 reach 1 room 1 ; shelf u height 2 reach 2 room 2 ; lid q wide 9 weight 9 breaks 9 ; "
            + "top q ; habit q 9 ; nest 0 ; nest 0 ; ";
        String[] wrong = {"?", "top zz", "lid q", "habit q", "shelf v height 0", "nest (((((1", "nest 0 ; nest 0 ; nest"};
        int[] fault = {1, 2 + 16 * 4, 3 + 16 * 4, 3 + 16 * 6, 4 + 16 * 15, 5 + 16 * 10, 5 + 16 * 18};
        for (int i = 0; i < wrong.length; i++) {
            Check.due("fault " + i, Check.tell(x, other + wrong[i]), fault[i] + 16 * other.length());
            Check.row("counts", new int[] {x.count(0), x.count(1), x.count(2), x.count(3), x.count(4), x.count(5)}, 2, 1, 1, 0, 1, 0);
            Check.row("ware", new int[] {x.ware(0, 0), x.ware(0, 1), x.ware(0, 6), x.ware(0, 7), x.ware(1, 5), x.ware(0, 5)}, 5, 5, 0, 0, 4, 0);
            Check.row("shelf", new int[] {x.shelf(0, 0), x.shelf(0, 1), x.shelf(0, 2), x.shelf(0, 3)}, 9, 7, 5, 1);
            Check.row("law", new int[] {x.may(1, 0), x.may(0, 1), x.through(1, 0), x.rows(0), x.needed(9)}, 1, 0, 1, 1, 1);
            Check.row("stack", new int[] {x.at(0, 0, 0), x.at(0, 0, 1), x.cost(), x.asked()}, 0, 1, 21, 12 + 18);
            Check.due("mark", x.mark(3, true), true);
        }
    }

    private static void ofAWare() {
        Check.says("7: 1 if it is a top; NONE: others.");
        BowlShelf x = Check.told(wares(12));
        for (int what = 0; what < 8; what++) {
            Check.row("ware " + what, new int[] {x.ware(-1, what), x.ware(12, what), x.ware(Integer.MAX_VALUE, what),
                x.ware(Integer.MIN_VALUE, what)}, -1, -1, -1, -1);
        }
        Check.all("what", new int[] {x.ware(0, -1), x.ware(0, 8), x.ware(11, 8), x.ware(0, Integer.MAX_VALUE),
            x.ware(0, Integer.MIN_VALUE)}, -1);
        Check.row("a lid, a top: not", new int[] {x.ware(0, 6), x.ware(0, 7)}, 0, 0);
    }

    private static void ofAShelf() {
        Check.says("3: how many STACKS; NONE: others.");
        BowlShelf x = Check.told(wares(8) + shelvesOf(3) + Check.shelf("t", 99, 0, 8));
        Check.due("none", x.shelf(3, 3), 0);
        for (int w = 0; w < 8; w++) {
            x.put(w, 3, -1);
            Check.due("stacks", x.shelf(3, 3), w + 1);
        }
        Check.due("of another one", x.shelf(2, 3), 0);
        Check.all("others", new int[] {x.shelf(4, 0), x.shelf(-1, 0), x.shelf(4, 3), x.shelf(-1, 3), x.shelf(0, 4), x.shelf(0, -1),
            x.shelf(Integer.MIN_VALUE, 3), x.shelf(Integer.MAX_VALUE, 3), x.shelf(3, Integer.MAX_VALUE)}, -1);
    }

    private static void counts() {
        Check.says("5: signs on the TAPE. NONE for another what.");
        BowlShelf x = Check.told(wares(12) + shelvesOf(4).replace(" ", "\n") + "nest 1;nest 1;nest 1;nest 1;");
        for (int i = 0; i < 31; i++) {
            x.ask(0);
        }
        Check.feed(x, " ".repeat(1001));
        Check.row("full", new int[] {x.count(0), x.count(1), x.count(2), x.count(3), x.count(4), x.count(5)}, 12, 4, 4, 12, 30, 1000);
        Check.all("another what", new int[] {x.count(-1), x.count(6), x.count(Integer.MAX_VALUE), x.count(Integer.MIN_VALUE)}, -1);
    }
}
