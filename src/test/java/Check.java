import java.util.NoSuchElementException;

/** What the tests share: texts onto the TAPE, answers that are due, and the count of those that are not. */
final class Check {
    static final long THROWS = Long.MIN_VALUE;

    private static int wrong = 0;
    private static int asked = 0;
    private static String sentence = "";
    private static int askedBefore = 0;

    private Check() {
    }

    static void due(String call, long got, long want) {
        asked++;
        if (got != want) {
            wrong++;
            System.out.println(sentence + call + " answered " + got + ", due is " + want);
        }
    }

    /** The sentence of the document (or LANGUAGE.md), in its words, that the answers behind are due by; each needs some. */
    static void says(String words) {
        if (!sentence.isEmpty() && asked == askedBefore) {
            wrong++;
            System.out.println(sentence + "nothing is asked for it");
        }
        sentence = "[" + words + "] ";
        askedBefore = asked;
    }

    static void due(String call, boolean got, boolean want) {
        due(call, got ? 1 : 0, want ? 1 : 0);
    }

    /** The same answer is due for each of some arguments. */
    static void all(String call, int[] got, int want) {
        for (int i = 0; i < got.length; i++) {
            due(call + " (" + i + ")", got[i], want);
        }
    }

    /** A row of answers. */
    static void row(String call, int[] got, int... want) {
        due(call + ": how many", got.length, want.length);
        for (int i = 0; i < got.length && i < want.length; i++) {
            due(call + " (" + i + ")", got[i], want[i]);
        }
    }

    /** Puts a text on the TAPE, 24 signs a call; answers what the last call answered. */
    static int feed(BowlShelf x, String text) {
        int answer = x.count(5);
        for (int i = 0; i < text.length(); i += 24) {
            answer = x.feed(word(text, i), word(text, i + 8), word(text, i + 16));
        }
        return answer;
    }

    private static long word(String text, int from) {
        long word = 0;
        for (int i = from; i < from + 8; i++) {
            word = word << 8 | (i < text.length() ? text.charAt(i) & 255 : 0);
        }
        return word;
    }

    static int tell(BowlShelf x, String text) {
        feed(x, text);
        return x.cupboard();
    }

    static BowlShelf told(String text) {
        BowlShelf x = new BowlShelf();
        due("cupboard of " + text, tell(x, text), 0);
        return x;
    }

    /** The FAULT of a text on a new object. */
    static void fault(String text, int kind, int place) {
        due("cupboard of '" + text + "'", tell(new BowlShelf(), text), kind + 16 * place);
    }

    static void fine(String text) {
        due("cupboard of '" + text + "'", tell(new BowlShelf(), text), 0);
    }

    static long whole(BowlShelf x, int ware, int part) {
        try {
            return x.whole(ware, part);
        } catch (NoSuchElementException e) {
            return THROWS;
        }
    }

    static String bowl(String name, int wide, int deep, int weight, int bears, int breaks) {
        return "bowl " + name + " wide " + wide + " deep " + deep + " weight " + weight
            + " bears " + bears + " breaks " + breaks + " ; ";
    }

    static String lid(String name, int wide, int weight, int breaks) {
        return "lid " + name + " wide " + wide + " weight " + weight + " breaks " + breaks + " ; ";
    }

    static String shelf(String name, int height, int reach, int room) {
        return "shelf " + name + " height " + height + " reach " + reach + " room " + room + " ; ";
    }

    static void end(String test) {
        System.out.println(test + ": " + asked + " answers, " + wrong + " not as due");
        if (wrong != 0) {
            System.exit(1);
        }
    }
}
