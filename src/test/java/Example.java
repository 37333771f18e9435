/** The example of README.md: a cupboard is told, filled and asked. */
public final class Example {
    private Example() {
    }

    public static void main(String[] args) {
        BowlShelf x = new BowlShelf();
        tell(x, "bowl big wide 30 deep 10 weight 5 bears 20 breaks 10 ;");
        tell(x, "bowl small wide 20 deep 8 weight 3 bears 6 breaks 20 ;");
        tell(x, "lid flat wide 18 weight 1 breaks 5 ;");
        tell(x, "shelf low height 20 reach 2 room 1 ; habit small 3 ; habit big 1 ;");
        System.out.println("fault " + x.cupboard());

        System.out.println("big on the shelf: " + x.put(0, 0, BowlShelf.NONE));
        System.out.println("small beside it: refused by " + x.put(1, 0, BowlShelf.NONE));
        System.out.println("small into it: " + x.put(1, 0, 0));
        System.out.println("the lid goes on stack " + x.goes(2, 1));
        System.out.println("all that cost " + x.cost());

        System.out.println("to take big out costs " + x.lift(0));
        x.ask(0);
        x.ask(1);
        System.out.println("the askings cost " + x.asked());
        System.out.println("small is whole by " + x.whole(1, 0) + " of a hundred to the power of " + x.whole(1, 4));
        System.out.println("an asking by habit costs " + x.habit(0) + "/" + x.habit(1));

        tell(x, "bowl big wide 100");
        int fault = x.cupboard();
        System.out.println("fault " + fault % 16 + " at sign " + fault / 16 + ", all stays: " + x.count(0) + " wares");
    }

    /** Puts a text on the tape: 24 signs a call, the bytes of three longs; bytes of 0 are left out. */
    private static void tell(BowlShelf x, String text) {
        for (int i = 0; i < text.length(); i += 24) {
            x.feed(eight(text, i), eight(text, i + 8), eight(text, i + 16));
        }
    }

    private static long eight(String text, int from) {
        long bytes = 0;
        for (int i = from; i < from + 8; i++) {
            bytes = bytes << 8 | (i < text.length() ? text.charAt(i) : 0);
        }
        return bytes;
    }
}
