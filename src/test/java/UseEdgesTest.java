/** The boundary cases of promises 13 to 17, each sentence by tests of its own. */
public final class UseEdgesTest {
    private static final int BAD = NineBooks.BAD, NONE = NineBooks.NONE;
    private static final int[] NO_SETS = {-1, 512, Check.FAR_BELOW, Check.FAR};

    public static void main(String[] args) {
        useOfNothing();
        useOfEverything();
        halfIsCut();
        blankIsNone();
        leaningOnItself();
        leaningOnOneThatThereIsNot();
        leaningOnOneThatIsNotInTheSet();
        leaningGoesOneStep();
        setsThatAreNotSo();
        leastAndMostGain();
        gainOfNoKing();
        lossOfNoneAndOfAll();
        lossByOneThatThereIsNot();
        enoughForNothing();
        enoughAtItsEnds();
        enoughOfLikeOnes();
        enoughOfLeftAlone();
        dearestOfNone();
        dearestOfOne();
        dearestOfLikeOnes();
        dearestAtItsEnds();
        Check.end();
    }

    // ---- promise 13

    private static void useOfNothing() {
        Check.due("no books", new NineBooks().use(511), 0);
        Check.due("none of nine", Check.with(Scene.NINES, "").use(0), 0);
        Check.due("those that there are not", Check.with("9o.", "").use(510), 0);
        Check.due("by a fault", Check.with("9o.;", "").use(511), 0);
    }

    private static void useOfEverything() {
        NineBooks x = Check.with(Scene.NINES, "");
        Check.due("all nine", x.use(511), 81);
        Check.due("the ninth", x.use(256), 9);
        Check.due("all but the first", x.use(510), 72);
        Check.due("burnt ones are of use in a set", Scene.allBurnt().use(1), 5);
        Check.due("of all that there are", Check.with("9o.;9o.", "").use(511), 18);
    }

    private static void halfIsCut() {
        for (int worth = 0; worth <= 9; worth++) {
            Check.due("half of " + worth, Check.with(worth + "p.", "").use(1), worth / 2);
        }
        Check.due("halves are cut one by one", Check.with("9p.;9p.;9p.", "").use(7), 12);
    }

    private static void blankIsNone() {
        Check.due("a blank one", Check.with("9b.", "").use(1), 0);
        Check.due("on another", Check.with("9b1;1o.", "").use(3), 1);
        Check.due("one that leans on a blank one", Check.with("9o1;9b.", "").use(3), 9);
    }

    private static void leaningOnItself() {
        Check.due("itself is in it", Check.with("7o0", "").use(1), 7);
        Check.due("the ninth", Check.with("0o.;0o.;0o.;0o.;0o.;0o.;0o.;0o.;9p8", "").use(256), 4);
    }

    private static void leaningOnOneThatThereIsNot() {
        NineBooks x = Check.with("7o1", "");
        Check.due("it is in no set", x.use(1), 0);
        Check.due("by its bit, too", x.use(3), 0);
        Check.type(x, 0, ";0b.");
        Check.due("then it is there", x.use(3), 7);
        Check.due("the ninth is not", Check.with("7o8", "").use(511), 0);
    }

    private static void leaningOnOneThatIsNotInTheSet() {
        NineBooks x = Check.with("7o1;5o.", "");
        Check.due("without it", x.use(1), 0);
        Check.due("with it", x.use(3), 12);
        Check.due("it alone", x.use(2), 5);
        x.burn(1);
        Check.due("burnt, but in the set", x.use(3), 12);
    }

    private static void leaningGoesOneStep() {
        NineBooks x = Check.with("1o1;2o2;4o.", "");
        Check.due("the next one is in the set", x.use(3), 1);
        Check.due("the one after it", x.use(6), 6);
        Check.due("not the next one", x.use(5), 4);
        Check.due("all", x.use(7), 7);
        Check.due("each on the other", Check.with("1o1;2o0", "").use(3), 3);
    }

    private static void setsThatAreNotSo() {
        NineBooks x = Check.with(Scene.NINES, "999");
        for (int some : NO_SETS) {
            Check.due("use of " + some, x.use(some), BAD);
            Check.due("gain by " + some, x.gain(0, some), BAD);
        }
    }

    // ---- promises 14 and 15

    private static void leastAndMostGain() {
        NineBooks x = Check.with(Scene.NINES, "990;991;009");
        Check.due("need 0", x.gain(0, 511), 0);
        Check.due("need 1", x.gain(1, 511), 81);
        Check.due("need 9, whatever it has", x.gain(2, 511), 729);
        Check.due("by no books", x.gain(2, 0), 0);
    }

    private static void gainOfNoKing() {
        NineBooks x = Check.with(Scene.NINES, Scene.SIX);
        for (int king : new int[] {-1, 6, Check.FAR_BELOW, Check.FAR}) {
            Check.due("gain of king " + king, x.gain(king, 511), BAD);
        }
        Check.due("the sixth", x.gain(5, 511), 162);
        Check.due("no kings", Check.with(Scene.NINES, "").gain(0, 511), BAD);
        Check.due("no kings by a fault", Check.with(Scene.NINES, "99").gain(0, 511), BAD);
    }

    private static void lossOfNoneAndOfAll() {
        NineBooks x = Check.with(Scene.NINES, "");
        Check.due("none is burnt", x.loss(), 0);
        for (int book = 0; book <= 8; book++) {
            x.burn(book);
            Check.due("by " + (book + 1) + " burnt", x.loss(), 9 * (book + 1));
        }
        for (int book = 7; book >= 0; book--) {
            x.back();
            Check.due("one is undone", x.loss(), 9 * (book + 1));
        }
        Check.due("no books", new NineBooks().loss(), 0);
    }

    private static void lossByOneThatThereIsNot() {
        NineBooks x = Check.with("9o.;9o8", "");
        x.burn(8);
        x.burn(2);
        Check.due("none of them is there", x.loss(), 0);
        x.burn(1);
        Check.due("one without use", x.loss(), 0);
        x.burn(0);
        Check.due("one of use", x.loss(), 9);
    }

    // ---- promise 16

    private static void enoughForNothing() {
        Check.due("nothing of nine", Check.with(Scene.NINES, "").enough(0), 0);
        Check.due("nothing of none", new NineBooks().enough(0), 0);
        Check.due("nothing of all burnt", Scene.allBurnt().enough(0), 0);
        Check.due("something of none", new NineBooks().enough(1), NONE);
        Check.due("something of all burnt", Scene.allBurnt().enough(1), NONE);
        Check.due("something of no use", Check.with("0o.;9b.;1p.", "").enough(1), NONE);
    }

    private static void enoughAtItsEnds() {
        NineBooks x = Check.with(Scene.NINES, "");
        Check.due("just what there is", x.enough(81), 511);
        Check.due("one more", x.enough(82), NONE);
        Check.due("the most", x.enough(99), NONE);
        Check.due("just one of them", x.enough(9), 1);
        Check.due("a little more than one", x.enough(10), 3);
        for (int use : new int[] {-1, 100, Check.FAR_BELOW, Check.FAR}) {
            Check.due("enough of " + use, x.enough(use), BAD);
        }
    }

    private static void enoughOfLikeOnes() {
        Check.due("fewer before less bits", Check.with("4o.;4o.;8o.", "").enough(8), 4);
        Check.due("less bits of as many", Check.with("1o.;4o.;4o.;3o.", "").enough(7), 6);
        Check.due("not the most use of them", Check.with("5o.;9o.", "").enough(5), 1);
        Check.due("of two by two", Check.with("3o.;1o.;1o.;3o.;3o.", "").enough(6), 9);
    }

    private static void enoughOfLeftAlone() {
        NineBooks x = Check.with("9o.;5o.;5o.;9o3", "");
        x.burn(0);
        Check.due("without the burnt one", x.enough(9), 8);
        x.burn(3);
        Check.due("without both", x.enough(9), 6);
        Check.due("the least of them", x.enough(5), 2);
        Check.due("no more", x.enough(11), NONE);
        NineBooks y = Check.with("9o1;1o.", "");
        Check.due("with the one on which it leans", y.enough(9), 3);
        y.burn(1);
        Check.due("it leans on a burnt one", y.enough(1), NONE);
    }

    // ---- promise 17

    private static void dearestOfNone() {
        Check.due("no books", new NineBooks().dearest(), NONE);
        Check.due("all burnt", Scene.allBurnt().dearest(), NONE);
        Check.due("by a fault", Check.with("9o.;", "").dearest(), NONE);
    }

    private static void dearestOfOne() {
        for (int book = 0; book <= 8; book++) {
            NineBooks x = Check.with(Scene.NINE, "");
            for (int other = 0; other <= 8; other++) {
                if (other != book) {
                    x.burn(other);
                }
            }
            Check.due("only " + book + " is left", x.dearest(), book);
        }
    }

    private static void dearestOfLikeOnes() {
        NineBooks x = Check.with(Scene.NINES, "");
        for (int book = 0; book <= 8; book++) {
            Check.due("the least of like ones", x.dearest(), book);
            x.burn(book);
        }
        Check.due("the least of two", Check.with("1o.;5o.;5o.", "").dearest(), 1);
        Check.due("the least without use", Check.with("9b.;0o.;1p.", "").dearest(), 0);
    }

    private static void dearestAtItsEnds() {
        Check.due("the first", Check.with("2o.;1o.;1o.", "").dearest(), 0);
        Check.due("the ninth", Check.with("1o.;1o.;1o.;1o.;1o.;1o.;1o.;1o.;2o.", "").dearest(), 8);
        Check.due("one on which all lean", Check.with("3o1;0b.;2o1", "").dearest(), 1);
        NineBooks x = Check.with("1o.;9o.;2o.", "");
        x.burn(1);
        Check.due("no burnt one", x.dearest(), 2);
    }
}
