/** The boundary cases of promises 18 to 24, each sentence by tests of its own. */
public final class OfferEdgesTest {
    private static final int BAD = NineBooks.BAD, NONE = NineBooks.NONE;
    private static final int LEAVE = 0, BUY = 2;
    private static final long LONG_BAD = -9223372036854775806L;
    private static final int[] NO_KINGS = {-1, 6, Check.FAR_BELOW, Check.FAR};
    private static final int[] NO_SETS = {-1, 512, Check.FAR_BELOW, Check.FAR};
    private static final int[] NO_PARTS = {-1, 2, Check.FAR_BELOW, Check.FAR};

    public static void main(String[] args) {
        buysUpToItsGain();
        buysUpToWhatItHas();
        buysForNothing();
        leavesOfNoBooks();
        actsAlikeByAllBurns();
        noKingActs();
        badActs();
        valueIsNoneAtLeast();
        valueAtItsMost();
        badValues();
        chanceAtItsEnds();
        chanceOfWhatIsLeft();
        badChances();
        takeAtItsEnds();
        takeIsNotByPrice();
        badTakes();
        bestPriceAtItsEnds();
        bestPriceOfNoneLeft();
        bestBurnsOfLikeOnes();
        badPricesAndBurns();
        sharedForNothing();
        sharedJustSo();
        sharedWithinWhatTheyHave();
        sharedOfNoBooks();
        badShares();
        Check.end();
    }

    // ---- promise 18

    private static NineBooks at(String books, String kings, int price) {
        NineBooks x = Check.with(books, kings);
        x.set(0, price);
        return x;
    }

    private static void buysUpToItsGain() {
        Check.due("a gain of more", at("7o.", "993", 20).act(0, 1), BUY);
        Check.due("a gain of as much", at("7o.", "993", 21).act(0, 1), BUY);
        Check.due("a gain of less", at("7o.", "993", 22).act(0, 1), LEAVE);
        Check.due("no need", at("7o.", "990", 1).act(0, 1), LEAVE);
        Check.due("the most need", at("9o.;2o.", "999", 99).act(0, 3), BUY);
    }

    private static void buysUpToWhatItHas() {
        Check.due("it has more", at("9o.", "219", 20).act(0, 1), BUY);
        Check.due("it has as much", at("9o.", "209", 20).act(0, 1), BUY);
        Check.due("it has less", at("9o.", "199", 20).act(0, 1), LEAVE);
        Check.due("it has nothing", at("9o.", "009", 1).act(0, 1), LEAVE);
    }

    private static void buysForNothing() {
        Check.due("who has nothing", at("9o.", "009", 0).act(0, 1), BUY);
        Check.due("who needs nothing", at("9o.", "990", 0).act(0, 1), BUY);
        Check.due("what is of no use", at("9b.", "999", 0).act(0, 1), BUY);
        Check.due("its value", at("9b.", "999", 0).value(0, 1, 0), 0);
        Check.due("its chance", at("9b.", "999", 0).buys(0, 0), 1);
    }

    private static void leavesOfNoBooks() {
        NineBooks x = at("9o.", "999", 0);
        Check.due("no books offered", x.act(0, 0), LEAVE);
        Check.due("those that there are not", x.act(0, 510), LEAVE);
        Check.due("the one that there is", x.act(0, 1), BUY);
        Check.due("it and those that there are not", x.act(0, 511), BUY);
        Check.due("of no books at all", at("", "999", 0).act(0, 511), LEAVE);
        Check.due("by a fault", at("9o.;", "999", 0).act(0, 511), LEAVE);
        Check.due("all burnt, but offered", Scene.allBurnt().act(2, 511), LEAVE);
        NineBooks burnt = at("9o.", "999", 81);
        burnt.burn(0);
        Check.due("one burnt, but offered", burnt.act(0, 1), BUY);
    }

    private static void actsAlikeByAllBurns() {
        NineBooks x = at(Scene.NINES, "999", 99);
        NineBooks y = at(Scene.NINES, "989", 99);
        for (int burns = 1; burns <= 9; burns++) {
            x.set(1, burns);
            y.set(1, burns);
            Check.due("it buys, burns " + burns, x.act(0, 511), BUY);
            Check.due("one too many for one book, burns " + burns, x.act(0, 1), LEAVE);
            Check.due("it never has so much, burns " + burns, y.act(0, 511), LEAVE);
        }
    }

    private static void noKingActs() {
        NineBooks x = at(Scene.NINES, "", 0);
        Check.due("act", x.act(0, 511), BAD);
        Check.due("value", x.value(0, 511, 0), LONG_BAD);
        Check.due("buys", x.buys(0, 0), LONG_BAD);
        Check.due("take", x.take(0, 0, 0), LONG_BAD);
        Check.due("price", x.price(0), BAD);
        Check.due("burns", x.burns(0), BAD);
        Check.due("share", x.share(0, 1, 511, 0), BAD);
        Check.due("gain", x.gain(0, 511), BAD);
        Check.due("king", x.king(0, 0), BAD);
    }

    private static void badActs() {
        NineBooks x = at(Scene.NINES, Scene.SIX, 0);
        for (int king : NO_KINGS) {
            Check.due("act of " + king, x.act(king, 511), BAD);
        }
        for (int some : NO_SETS) {
            Check.due("act at " + some, x.act(0, some), BAD);
        }
        Check.due("the sixth at all", x.act(5, 511), BUY);
    }

    // ---- promise 19

    private static void dueValue(String call, NineBooks x, int some, long above) {
        Check.due(call + ", above", x.value(0, some, 0), above);
        Check.due(call + ", below", x.value(0, some, 1), 1);
    }

    private static void valueIsNoneAtLeast() {
        dueValue("it loses by 1", at("7o.", "993", 22), 1, 0);
        dueValue("it neither wins nor loses", at("7o.", "993", 21), 1, 0);
        dueValue("it wins by 1", at("7o.", "993", 20), 1, 1);
        dueValue("it has less", at("9o.", "199", 20), 1, 0);
        dueValue("no books", at("9o.", "999", 0), 0, 0);
        dueValue("those that there are not", at("9o.", "999", 0), 510, 0);
    }

    private static void valueAtItsMost() {
        dueValue("all for nothing", at(Scene.NINES, "999", 0), 511, 729);
        dueValue("all for nothing, by who has nothing", at(Scene.NINES, "009", 0), 511, 729);
        dueValue("all for the most", at(Scene.NINES, "999", 99), 511, 630);
        NineBooks burnt = at(Scene.NINES, "999", 0);
        burnt.burn(0);
        dueValue("a burnt one, too", burnt, 511, 729);
    }

    private static void badValues() {
        NineBooks x = at(Scene.NINES, Scene.SIX, 0);
        for (int king : NO_KINGS) {
            Check.due("value for " + king, x.value(king, 511, 0), LONG_BAD);
        }
        for (int some : NO_SETS) {
            Check.due("value of " + some, x.value(0, some, 1), LONG_BAD);
        }
        for (int what : NO_PARTS) {
            Check.due("part " + what + " of it", x.value(0, 511, what), LONG_BAD);
        }
    }

    // ---- promise 20

    private static void dueChance(String call, NineBooks x, long above) {
        Check.due(call + ", above", x.buys(0, 0), above);
        Check.due(call + ", below", x.buys(0, 1), 1);
    }

    private static void chanceAtItsEnds() {
        dueChance("surely", at("7o.", "993", 21), 1);
        dueChance("surely not", at("7o.", "993", 22), 0);
        dueChance("no more than it has", at("9o.", "209", 20), 1);
        dueChance("more than it has", at("9o.", "199", 20), 0);
    }

    private static void chanceOfWhatIsLeft() {
        NineBooks x = at("7o.;7o.", "993", 42);
        dueChance("all are left", x, 1);
        x.burn(1);
        dueChance("one is burnt", x, 0);
        x.set(0, 21);
        dueChance("for half", x, 1);
        x.burn(0);
        dueChance("none is left", x, 0);
        x.set(0, 0);
        dueChance("none is left, for nothing", x, 0);
        dueChance("no books", at("", "999", 0), 0);
    }

    private static void badChances() {
        NineBooks x = at(Scene.NINES, Scene.SIX, 0);
        for (int king : NO_KINGS) {
            Check.due("chance of " + king, x.buys(king, 0), LONG_BAD);
        }
        for (int what : NO_PARTS) {
            Check.due("part " + what + " of it", x.buys(0, what), LONG_BAD);
        }
    }

    // ---- promise 21

    private static void dueTake(String call, NineBooks x, int price, long above) {
        Check.due(call + ", above", x.take(0, price, 0), above);
        Check.due(call + ", below", x.take(0, price, 1), 1);
    }

    private static void takeAtItsEnds() {
        NineBooks rich = Check.with(Scene.NINES, "999");
        dueTake("the least price", rich, 0, 0);
        dueTake("the next", rich, 1, 1);
        dueTake("the most", rich, 99, 99);
        NineBooks x = Check.with("7o.", "503");
        dueTake("as much as it gains", x, 21, 21);
        dueTake("one more", x, 22, 0);
        NineBooks y = Check.with("9o.", "209");
        dueTake("as much as it has", y, 20, 20);
        dueTake("more than it has", y, 21, 0);
        NineBooks burnt = Check.with("9o.", "999");
        burnt.burn(0);
        dueTake("none is left", burnt, 5, 0);
        dueTake("none is left, for nothing", burnt, 0, 0);
        dueTake("no books", Check.with("", "999"), 99, 0);
    }

    private static void takeIsNotByPrice() {
        NineBooks x = at("7o.", "993", 99);
        dueTake("in place of a greater price", x, 21, 21);
        x.set(0, 0);
        dueTake("in place of a less one", x, 22, 0);
        Check.due("the price is as it was", x.set(0, 1), 0);
    }

    private static void badTakes() {
        NineBooks x = at(Scene.NINES, Scene.SIX, 0);
        for (int king : NO_KINGS) {
            Check.due("take of " + king, x.take(king, 0, 0), LONG_BAD);
        }
        for (int price : new int[] {-1, 100, Check.FAR_BELOW, Check.FAR}) {
            Check.due("take at " + price, x.take(0, price, 0), LONG_BAD);
        }
        for (int what : NO_PARTS) {
            Check.due("part " + what + " of it", x.take(0, 0, what), LONG_BAD);
        }
    }

    // ---- promises 22 and 23

    private static void bestPriceAtItsEnds() {
        Check.due("the most", Check.with(Scene.NINES, "999").price(0), 99);
        Check.due("nearly the most", Check.with(Scene.NINES, "989").price(0), 98);
        Check.due("by gain, just the most", Check.with("9o.;2o.", "999").price(0), 99);
        Check.due("by gain, less", Check.with("9o.;1o.", "999").price(0), 90);
        Check.due("it has nothing: the least of like ones", Check.with("9o.", "009").price(0), 0);
        Check.due("it needs nothing", Check.with("9o.", "990").price(0), 0);
        Check.due("of no use", Check.with("9b.", "999").price(0), 0);
        Check.due("the least that is some", Check.with("9o.", "019").price(0), 1);
        NineBooks x = at("9o.;5o.", "999", 7);
        x.burn(0);
        Check.due("of what is left", x.price(0), 45);
        Check.due("the price is as it was", x.set(0, 1), 7);
    }

    private static void bestPriceOfNoneLeft() {
        Check.due("all burnt", Scene.allBurnt().price(2), 0);
        Check.due("no books", Check.with("", "999").price(0), 0);
    }

    private static void bestBurnsOfLikeOnes() {
        Check.due("all alike: the least", at(Scene.NINES, "999", 99).burns(0), 1);
        Check.due("of nothing", at(Scene.NINES, "009", 99).burns(0), 1);
        Check.due("for nothing", at(Scene.NINES, "999", 0).burns(0), 1);
        Check.due("none left", Scene.allBurnt().burns(0), 1);
        Check.due("no books", Check.with("", "999").burns(0), 1);
        NineBooks x = at(Scene.NINES, "999", 99);
        x.set(1, 9);
        Check.due("whatever they are", x.burns(0), 1);
        Check.due("they are as they were", x.set(1, 1), 9);
    }

    private static void badPricesAndBurns() {
        NineBooks x = at(Scene.NINES, Scene.SIX, 0);
        for (int king : NO_KINGS) {
            Check.due("price of " + king, x.price(king), BAD);
            Check.due("burns of " + king, x.burns(king), BAD);
        }
    }

    // ---- promise 24

    private static void dueShare(String call, NineBooks x, int some, int least, int most) {
        Check.due(call + ", the least", x.share(0, 1, some, 0), least);
        Check.due(call + ", the most", x.share(0, 1, some, 1), most);
    }

    private static void sharedForNothing() {
        dueShare("both pay nothing", at("9o.", "999;999", 0), 1, 0, 0);
        dueShare("who have nothing", at("9o.", "009;009", 0), 1, 0, 0);
        dueShare("of no use", at("9b.", "999;999", 0), 1, 0, 0);
        dueShare("of no use, for 1", at("9b.", "999;999", 1), 1, NONE, NONE);
    }

    private static void sharedJustSo() {
        dueShare("just by their gains", at("5o.", "993;992", 25), 1, 15, 15);
        dueShare("one to spare", at("5o.", "993;992", 24), 1, 14, 15);
        dueShare("one short", at("5o.", "993;992", 26), 1, NONE, NONE);
        dueShare("just by what they have", at("9o.", "109;209", 30), 1, 10, 10);
        dueShare("one short of it", at("9o.", "109;209", 31), 1, NONE, NONE);
        dueShare("one pays all", at("9o.", "309;009", 30), 1, 30, 30);
        dueShare("the other one pays all", at("9o.", "009;309", 30), 1, 0, 0);
    }

    private static void sharedWithinWhatTheyHave() {
        dueShare("no more than PRICE", at(Scene.NINES, "999;999", 99), 511, 0, 99);
        dueShare("no less than the rest", at(Scene.NINES, "999;019", 99), 511, 98, 99);
        dueShare("the first by its gain", at("1o.", "997;999", 9), 1, 0, 7);
        dueShare("the other by its gain", at("1o.", "999;997", 9), 1, 2, 9);
        NineBooks x = at("9o.;9o.", "991;991", 30);
        dueShare("of both", x, 3, 12, 18);
        dueShare("of one", x, 1, NONE, NONE);
        x.burn(0);
        dueShare("of both, one burnt", x, 3, 12, 18);
    }

    private static void sharedOfNoBooks() {
        dueShare("no books", at("9o.", "999;999", 1), 0, NONE, NONE);
        dueShare("those that there are not", at("9o.", "999;999", 1), 510, NONE, NONE);
        dueShare("no books, for nothing", at("", "999;999", 0), 511, 0, 0);
    }

    private static void badShares() {
        NineBooks x = at(Scene.NINES, Scene.SIX, 0);
        for (int king = 0; king < 6; king++) {
            Check.due("one twice, " + king, x.share(king, king, 511, 0), BAD);
        }
        for (int king : NO_KINGS) {
            Check.due("the first is " + king, x.share(king, 1, 511, 0), BAD);
            Check.due("the other is " + king, x.share(1, king, 511, 0), BAD);
            Check.due("both are " + king, x.share(king, king, 511, 0), BAD);
        }
        for (int some : NO_SETS) {
            Check.due("share of " + some, x.share(0, 1, some, 0), BAD);
        }
        for (int what : NO_PARTS) {
            Check.due("end " + what + " of it", x.share(0, 1, 511, what), BAD);
        }
        NineBooks one = at(Scene.NINES, "999", 0);
        Check.due("one king alone", one.share(0, 1, 511, 0), BAD);
        Check.due("and itself", one.share(0, 0, 511, 0), BAD);
    }
}
