/** The boundary cases of promises 37 and 38, each sentence by tests of its own. */
public final class StateEdgesTest {
    private static final int BAD = NineBooks.BAD;

    public static void main(String[] args) {
        countsOfANewOne();
        countsAtTheirMost();
        countsByFaults();
        blankOnesOfLeft();
        eachFindingIsCounted();
        theLatestFindingIsCounted();
        noSuchCount();
        digestAsItIsTold();
        digestOfOneKingAndOfNone();
        digestOfNoBooks();
        digestOfAllBurnt();
        digestOfNoTrust();
        digestOfJustEnough();
        digestWraps();
        digestTellsNoMore();
        Check.end();
    }

    // ---- promise 37

    private static void dueCounts(String when, NineBooks x, int... counts) {
        for (int what = 0; what < counts.length; what++) {
            Check.due(when + ", count " + what, x.count(what), counts[what]);
        }
    }

    private static void countsOfANewOne() {
        dueCounts("new", new NineBooks(), 0, 0, 0, 0, 0, 0, 0, 0, 0);
    }

    private static void countsAtTheirMost() {
        NineBooks x = Check.with("0b.;1b.;2b.;3b.;4b.;5b.;6b.;7b.;8b.", Scene.SIX);
        for (int times = 0; times < 9; times++) {
            x.page(1);
            x.said(0, 0, 1);
        }
        dueCounts("full", x, 9, 6, 35, 23, 0, 9, 8, 9, 0);
        for (int book = 0; book <= 8; book++) {
            x.burn(book);
            Check.due("burnt", x.count(4), book + 1);
            Check.due("blank ones that are left", x.count(7), 8 - book);
        }
        x.burn(0);
        x.page(1);
        x.said(0, 0, 1);
        x.type(0, ';');
        x.type(1, ';');
        x.sheet(0, 0, -1);
        dueCounts("no more", x, 9, 6, 35, 23, 9, 9, 8, 0, 5);
    }

    private static void countsByFaults() {
        NineBooks x = Scene.full();
        x.undo(0);
        x.undo(1);
        dueCounts("by faults", x, 0, 0, 34, 22, 3, 2, 2, 0, 0);
    }

    private static void blankOnesOfLeft() {
        NineBooks x = Check.with("0b0;1b8;2b.;3o.;4p.", "");
        Check.due("on whatever they lean", x.count(7), 3);
        x.burn(3);
        x.burn(8);
        Check.due("other ones are burnt", x.count(7), 3);
        x.burn(1);
        Check.due("one of them is burnt", x.count(7), 2);
        x.back();
        Check.due("it is undone", x.count(7), 3);
    }

    private static void eachFindingIsCounted() {
        NineBooks x = new NineBooks();
        Check.fill(x, 0, 1, 2);
        x.sheet(1, 0, 2);
        x.lose(3);
        Check.due("NULL", x.count(8), 1);
        x.put(0, 2, 2, 1);
        Check.due("INDEX", x.count(8), 2);
        x.get(0, 1, 0);
        Check.due("CAST", x.count(8), 3);
        x.copy(0, 0, 1, 0, 1);
        Check.due("STORE", x.count(8), 4);
        x.sheet(0, 0, -1);
        Check.due("SIZE", x.count(8), 5);
    }

    private static void theLatestFindingIsCounted() {
        NineBooks x = Scene.full();
        x.sheet(0, 0, -1);
        x.lose(3);
        Check.due("of two the latest", x.count(8), 1);
        x.back();
        x.digest();
        x.put(0, 0, 0, 1);
        x.sheet(0, 2, 3);
        Check.due("as it was by what goes well", x.count(8), 1);
        x.lose(4);
        x.undo(2);
        x.page(2);
        x.get(0, 5, 0);
        Check.due("as it was by BAD", x.count(8), 1);
        NineBooks y = new NineBooks();
        y.undo(0);
        y.back();
        y.trust(0);
        Check.due("NOT is no finding", y.count(8), 0);
        NineBooks full = Check.with(Scene.NINE, Scene.SIX);
        full.type(0, '0');
        Check.due("FULL is no finding", full.count(8), 0);
    }

    private static void noSuchCount() {
        NineBooks x = Scene.full();
        for (int what : new int[] {-1, 9, Check.FAR_BELOW, Check.FAR}) {
            Check.due("count " + what, x.count(what), BAD);
        }
    }

    // ---- promise 38

    private static long with(long h, long... told) {
        long next = h;
        for (long one : told) {
            next = 31 * next + one;
        }
        return next;
    }

    /** What the digest is, by asking for each thing that it tells. */
    private static long asked(NineBooks x) {
        long h = 17;
        for (int what = 0; what <= 7; what++) {
            h = with(h, x.count(what));
        }
        h = with(h, x.fault(0), x.fault(1));
        for (int book = 0; book < x.count(0); book++) {
            h = with(h, x.book(book, 0), x.book(book, 1), x.book(book, 2));
        }
        for (int king = 0; king < x.count(1); king++) {
            h = with(h, x.king(king, 0), x.king(king, 1), x.gain(king, 511));
            int left = x.left();
            h = with(h, x.act(king, left), x.value(king, left, 0), x.value(king, left, 1));
            h = with(h, x.buys(king, 0), x.buys(king, 1), x.take(king, 20, 0), x.take(king, 20, 1));
            h = with(h, x.price(king), x.burns(king));
            h = with(h, x.share(0, king, 511, 0), x.share(0, king, 511, 1));
        }
        h = with(h, x.left(), x.use(x.left()), x.loss(), x.enough(9), x.dearest());
        return with(h, x.trust(0), x.trust(1), x.fourth(), x.coming(7, 0), x.coming(7, 1));
    }

    private static void dueDigest(String when, NineBooks x) {
        Check.due("digest " + when, x.digest(), asked(x));
    }

    private static void digestAsItIsTold() {
        dueDigest("of a full one", Scene.full());
        NineBooks x = Scene.full();
        x.set(0, 0);
        dueDigest("for nothing", x);
        x.set(0, 99);
        x.set(1, 9);
        x.set(2, 16);
        dueDigest("for the most", x);
        x.said(1, 1, 0);
        x.forget(0);
        x.back();
        dueDigest("of less burnt", x);
    }

    private static void digestOfOneKingAndOfNone() {
        // Of one king alone, share() of it with itself is told as BAD.
        NineBooks one = Check.with("9o.", "991");
        one.set(0, 9);
        Check.due("of one king", one.digest(), with(17, 1, 1, 3, 3, 0, 0, 0, 0, -1, -1, 9, 0, -1,
            99, 1, 9, 2, 0, 1, 1, 1, 0, 1, 9, 1, -2, -2, 1, 9, 0, 1, 0, 1, 2, 0, 1, 0));
        NineBooks none = Check.with("9o.", "");
        Check.due("of no king", none.digest(), with(17, 1, 0, 3, 0, 0, 0, 0, 0, -1, -1, 9, 0, -1,
            1, 9, 0, 1, 0, 1, 2, 0, -1, -1));
    }

    private static void digestOfNoBooks() {
        NineBooks x = Check.with("", "309");
        Check.due("of no books", x.digest(), with(17, 0, 1, 0, 3, 0, 0, 0, 0, -1, -1,
            30, 9, 0, 0, 0, 1, 0, 1, 0, 1, 0, 1, -2, -2, 0, 0, 0, -1, -1,
            -9223372036854775805L, -9223372036854775805L, 0, -1, -1));
        dueDigest("of nothing", new NineBooks());
    }

    private static void digestOfAllBurnt() {
        NineBooks x = Check.with("9o.", "399");
        x.burn(0);
        Check.due("of all burnt", x.digest(), with(17, 1, 1, 3, 3, 1, 0, 0, 0, -1, -1, 9, 0, -1,
            39, 9, 81, 0, 0, 1, 0, 1, 0, 1, 0, 1, -2, -2, 0, 0, 9, -1, -1,
            -9223372036854775805L, -9223372036854775805L, 1, -1, -1));
        dueDigest("of nine burnt", Scene.allBurnt());
    }

    private static void digestOfNoTrust() {
        NineBooks x = Check.with("9o.", "");
        x.page(1);
        x.page(0);
        Check.due("of what cannot be", x.digest(), with(17, 1, 0, 3, 0, 0, 2, 0, 0, -1, -1, 9, 0, -1,
            1, 9, 0, 1, 0, -9223372036854775805L, -9223372036854775805L, 0, -1, -1));
    }

    private static void digestOfJustEnough() {
        // 8 is enough by the first alone, 9 by both, and 10 is not to be had.
        NineBooks x = Check.with("8o.;1o.", "");
        Check.due("of just enough", x.digest(), with(17, 2, 0, 7, 0, 0, 0, 0, 0, -1, -1,
            8, 0, -1, 1, 0, -1, 3, 9, 0, 3, 0, 1, 2, 0, -1, -1));
        // 20 is just what one king has, and just what the other gains.
        NineBooks y = Check.with("9o.;1o.", "209;992");
        dueDigest("of just 20", y);
        Check.due("of what it has", y.take(0, 20, 0), 20);
        Check.due("of what it gains", y.take(1, 20, 0), 20);
    }

    private static void digestWraps() {
        // The twenty things that are told of a new one wrap a long: h by numbers that do not wrap.
        NineBooks x = Scene.full();
        java.math.BigInteger h = java.math.BigInteger.valueOf(17);
        NineBooks none = new NineBooks();
        long[] told = {0, 0, 0, 0, 0, 0, 0, 0, -1, -1, 0, 0, 0, -1, -1,
            -9223372036854775805L, -9223372036854775805L, 0, -1, -1};
        for (long one : told) {
            h = h.multiply(java.math.BigInteger.valueOf(31)).add(java.math.BigInteger.valueOf(one));
        }
        Check.due("it is more than a long", h.bitLength() > 63 ? 1 : 0, 1);
        Check.due("its lowest bits", none.digest(), h.longValue());
        Check.due("the same by the same", x.digest(), Scene.full().digest());
    }

    private static void digestTellsNoMore() {
        NineBooks x = Scene.full();
        long before = x.digest();
        x.sheet(0, 2, 9);
        x.lose(1);
        x.lose(1);
        Check.due("no sheets, no findings", x.digest(), before);
        Check.due("nothing is changed by it", x.digest(), before);
        Check.due("the finding is as it was", x.count(8), 1);
    }
}
