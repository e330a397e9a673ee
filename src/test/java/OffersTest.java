/** Promises 18 to 24: what kings do, what it is to them, what she asks, and who shares. */
public final class OffersTest {
    private static final int BAD = NineBooks.BAD, NONE = NineBooks.NONE;
    private static final int LEAVE = 0, BUY = 2;

    public static void main(String[] args) {
        acts();
        actsOfNoBooks();
        values();
        chances();
        takes();
        prices();
        burns();
        shares();
        badShares();
        Check.end();
    }

    /** USE of 0 is 5, of both 13; king 0 is short of need, king 1 of what it has. */
    private static NineBooks twoBooks() {
        return Check.with("5o.;8o0", "401;139;990");
    }

    private static void acts() {
        NineBooks x = twoBooks();
        int[] prices = {0, 5, 6, 13, 14, 99};
        int[] first = {BUY, BUY, BUY, BUY, LEAVE, LEAVE};
        int[] ofOne = {BUY, BUY, LEAVE, LEAVE, LEAVE, LEAVE};
        int[] second = {BUY, BUY, BUY, BUY, LEAVE, LEAVE};
        int[] third = {BUY, LEAVE, LEAVE, LEAVE, LEAVE, LEAVE};
        for (int i = 0; i < prices.length; i++) {
            x.set(0, prices[i]);
            Check.due("act 0 at " + prices[i], x.act(0, 3), first[i]);
            Check.due("act 0, one book, at " + prices[i], x.act(0, 1), ofOne[i]);
            Check.due("act 1 at " + prices[i], x.act(1, 511), second[i]);
            Check.due("act 2 at " + prices[i], x.act(2, 3), third[i]);
        }
        x.set(0, 10);
        x.burn(0);
        Check.due("burnt ones may be offered", x.act(0, 3), BUY);
        for (int burns = 1; burns <= 9; burns++) {
            x.set(1, burns);
            Check.due("act by burns " + burns, x.act(0, 3), BUY);
            Check.due("act, too little, by burns " + burns, x.act(0, 1), LEAVE);
        }
        Check.due("act of -1", x.act(-1, 3), BAD);
        Check.due("act of 3", x.act(3, 3), BAD);
        Check.due("act at -1", x.act(0, -1), BAD);
        Check.due("act at 512", x.act(0, 512), BAD);
    }

    private static void actsOfNoBooks() {
        NineBooks x = twoBooks();
        x.set(0, 0);
        Check.due("of no books it leaves", x.act(1, 0), LEAVE);
        Check.due("of those that there are not, too", x.act(1, 508), LEAVE);
        Check.due("of one without use it buys for 0", x.act(1, 2), BUY);
        x.wipe(0);
        Check.due("there are none", x.act(1, 511), LEAVE);
        Check.due("no value", x.value(1, 511, 0), 0);
        Check.due("no chance", x.buys(1, 0), 0);
    }

    private static void values() {
        NineBooks x = twoBooks();
        x.set(0, 7);
        Check.due("value above", x.value(0, 3, 0), 6);
        Check.due("value below", x.value(0, 3, 1), 1);
        Check.due("by need", x.value(1, 3, 0), 110);
        Check.due("value of what it leaves", x.value(0, 1, 0), 0);
        Check.due("0 by 1", x.value(0, 1, 1), 1);
        Check.due("none", x.value(0, 0, 0), 0);
        Check.due("none by 1", x.value(0, 0, 1), 1);
        x.set(0, 13);
        Check.due("buys for nothing", x.value(0, 3, 0), 0);
        x.set(0, 14);
        Check.due("has it not", x.value(1, 3, 0), 0);
        Check.due("king -1", x.value(-1, 3, 0), Check.refused(BAD));
        Check.due("king 3", x.value(3, 3, 0), Check.refused(BAD));
        Check.due("set -1", x.value(0, -1, 0), Check.refused(BAD));
        Check.due("set 512", x.value(0, 512, 0), Check.refused(BAD));
        Check.due("what -1", x.value(0, 3, -1), Check.refused(BAD));
        Check.due("what 2", x.value(0, 3, 2), Check.refused(BAD));
        Check.due("the least long and 2 more", x.value(0, 3, 2), -9223372036854775806L);
    }

    private static void chances() {
        NineBooks x = twoBooks();
        x.set(0, 13);
        Check.due("it buys", x.buys(0, 0), 1);
        Check.due("by 1", x.buys(0, 1), 1);
        x.set(0, 14);
        Check.due("it buys not", x.buys(0, 0), 0);
        Check.due("0 by 1", x.buys(0, 1), 1);
        x.set(0, 5);
        x.burn(1);
        Check.due("what is left", x.buys(0, 0), 1);
        x.burn(0);
        Check.due("none is left", x.buys(0, 0), 0);
        x.set(0, 0);
        Check.due("none is left for 0", x.buys(0, 0), 0);
        Check.due("king -1", x.buys(-1, 0), Check.refused(BAD));
        Check.due("king 3", x.buys(3, 0), Check.refused(BAD));
        Check.due("what -1", x.buys(0, -1), Check.refused(BAD));
        Check.due("what 2", x.buys(0, 2), Check.refused(BAD));
    }

    private static void takes() {
        NineBooks x = twoBooks();
        x.set(0, 99);
        int[] prices = {0, 1, 13, 14, 99};
        int[] takes = {0, 1, 13, 0, 0};
        for (int i = 0; i < prices.length; i++) {
            Check.due("take at " + prices[i], x.take(0, prices[i], 0), takes[i]);
            Check.due("take by 1", x.take(0, prices[i], 1), 1);
        }
        Check.due("the price is as it was", x.set(0, 30), 99);
        Check.due("take at -1", x.take(0, -1, 0), Check.refused(BAD));
        Check.due("take at 100", x.take(0, 100, 0), Check.refused(BAD));
        Check.due("take of -1", x.take(-1, 5, 0), Check.refused(BAD));
        Check.due("take of 3", x.take(3, 5, 0), Check.refused(BAD));
        Check.due("take what -1", x.take(0, 5, -1), Check.refused(BAD));
        Check.due("take what 2", x.take(0, 5, 2), Check.refused(BAD));
        x.burn(0);
        x.burn(1);
        Check.due("take of none left", x.take(0, 5, 0), 0);
        Check.due("rich and needy", Check.with("9o.;9o.", "999").take(0, 99, 0), 99);
    }

    private static void prices() {
        NineBooks x = twoBooks();
        Check.due("price by gain", x.price(0), 13);
        Check.due("price by what it has", x.price(1), 13);
        Check.due("price without need", x.price(2), 0);
        x.burn(1);
        Check.due("price of what is left", x.price(0), 5);
        x.burn(0);
        Check.due("price of none", x.price(0), 0);
        Check.due("price of -1", x.price(-1), BAD);
        Check.due("price of 3", x.price(3), BAD);
        Check.due("the most", Check.with("9o.;9o.", "999").price(0), 99);
    }

    private static void burns() {
        NineBooks x = twoBooks();
        Check.due("burns", x.burns(0), 1);
        x.set(0, 5);
        x.set(1, 9);
        Check.due("burns where it buys", x.burns(0), 1);
        Check.due("burns of 3", x.burns(3), BAD);
        Check.due("burns of -1", x.burns(-1), BAD);
        Check.due("burns are as they were", x.set(1, 3), 9);
    }

    private static void shares() {
        NineBooks x = Check.with("5o.;8o0", "401;139;990;082");
        int[] prices = {0, 10, 13, 20, 26, 27};
        int[] least = {0, 0, 0, 7, 13, NONE};
        int[] most = {0, 10, 13, 13, 13, NONE};
        for (int i = 0; i < prices.length; i++) {
            x.set(0, prices[i]);
            Check.due("least at " + prices[i], x.share(0, 1, 3, 0), least[i]);
            Check.due("most at " + prices[i], x.share(0, 1, 3, 1), most[i]);
        }
        x.set(0, 20);
        Check.due("the first has 8", x.share(3, 0, 511, 0), 7);
        Check.due("it pays all", x.share(3, 0, 511, 1), 8);
        Check.due("the other one has 8", x.share(0, 3, 511, 0), 12);
        Check.due("it pays most", x.share(0, 3, 511, 1), 13);
        Check.due("one without need", x.share(0, 2, 3, 0), NONE);
        x.set(0, 12);
        Check.due("all by one", x.share(0, 2, 3, 0), 12);
        Check.due("none by the other", x.share(2, 0, 3, 1), 0);
        Check.due("less of fewer", x.share(0, 1, 1, 1), 5);
        Check.due("no books", x.share(0, 1, 0, 0), NONE);
    }

    private static void badShares() {
        NineBooks x = Check.with("5o.;8o0", "401;139;990");
        x.set(0, 5);
        Check.due("one twice", x.share(1, 1, 3, 0), BAD);
        Check.due("first -1", x.share(-1, 1, 3, 0), BAD);
        Check.due("first 3", x.share(3, 1, 3, 0), BAD);
        Check.due("other -1", x.share(1, -1, 3, 0), BAD);
        Check.due("other 3", x.share(1, 3, 3, 0), BAD);
        Check.due("set -1", x.share(0, 1, -1, 0), BAD);
        Check.due("set 512", x.share(0, 1, 512, 0), BAD);
        Check.due("what -1", x.share(0, 1, 3, -1), BAD);
        Check.due("what 2", x.share(0, 1, 3, 2), BAD);
    }
}
