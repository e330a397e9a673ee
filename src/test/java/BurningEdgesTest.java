/** The boundary cases of promises 8 to 12, each sentence by tests of its own. */
public final class BurningEdgesTest {
    private static final int BAD = NineBooks.BAD, NOT = NineBooks.NOT;
    private static final int NULL = -11;
    private static final int BYTES = 0, SHORTS = 1, INTS = 2;

    public static void main(String[] args) {
        leastAndMostOfSettings();
        settingsThatAreNotSo();
        leastAndMostPriceTell();
        leastAndMostDoubtTell();
        leastAndMostBurnsTell();
        firstAndLastBookAreBurnt();
        noSuchBookToBurn();
        burntAlready();
        nineAreBurntAtMost();
        backToNone();
        backIsTheLastOne();
        readOfNoItems();
        readUpToTheFirstRefused();
        readAllNine();
        readBehindNine();
        readOfEachForm();
        readOfSheetsThatAreNot();
        leftOfNoBooks();
        leftOfAllAndOfNone();
        leftWithoutThoseThatThereAreNot();
        Check.end();
    }

    // ---- promise 8

    private static void leastAndMostOfSettings() {
        int[] first = {30, 3, 8};
        int[] least = {0, 1, 0};
        int[] most = {99, 9, 16};
        for (int what = 0; what < 3; what++) {
            NineBooks x = new NineBooks();
            Check.due("at first, " + what, x.set(what, least[what]), first[what]);
            Check.due("the least of " + what, x.set(what, most[what]), least[what]);
            Check.due("the most of " + what, x.set(what, first[what]), most[what]);
            Check.due("as it was, " + what, x.set(what, first[what]), first[what]);
        }
    }

    private static void settingsThatAreNotSo() {
        int[] first = {30, 3, 8};
        int[][] wrong = {{-1, 100, Check.FAR_BELOW, Check.FAR}, {0, 10, Check.FAR_BELOW, Check.FAR},
            {-1, 17, Check.FAR_BELOW, Check.FAR}};
        NineBooks x = new NineBooks();
        for (int what = 0; what < 3; what++) {
            for (int v : wrong[what]) {
                Check.due("set " + what + " to " + v, x.set(what, v), BAD);
            }
            Check.due("it is as it was", x.set(what, first[what]), first[what]);
        }
        for (int what : new int[] {-1, 3, Check.FAR_BELOW, Check.FAR}) {
            Check.due("no such setting " + what, x.set(what, 1), BAD);
        }
    }

    private static void leastAndMostPriceTell() {
        NineBooks x = Check.with("0o.;9o.;2o.", "999;000;989");
        x.set(0, 0);
        Check.due("who has nothing buys for nothing", x.act(1, 1), 2);
        x.set(0, 99);
        Check.due("who has 99 and gains 99 buys", x.act(0, 7), 2);
        Check.due("who has 98 does not", x.act(2, 7), 0);
        Check.due("who gains 81 does not", x.act(0, 2), 0);
    }

    private static void leastAndMostDoubtTell() {
        NineBooks x = Check.with("1o.", "");
        x.set(2, 0);
        Check.due("no doubt: surely true", x.trust(0), 1);
        Check.due("of 1", x.trust(1), 1);
        x.set(2, 16);
        Check.due("all doubt: surely false", x.trust(0), 0);
        Check.due("of 1, too", x.trust(1), 1);
        x.set(2, 15);
        Check.due("nearly all", x.trust(1), 16);
    }

    private static void leastAndMostBurnsTell() {
        // By seed 2 the lots are 33676, 22817, 43007, ..: of two kings the first comes, who has
        // nothing; of nine books the third is burnt, of the other eight the last, and so on.
        NineBooks x = Check.with(Scene.NINES, "001;991");
        x.set(0, 9);
        x.set(1, 1);
        Check.due("one is burnt", x.coming(2, 0), 507);
        x.set(1, 8);
        Check.due("all but one are burnt", x.coming(2, 0), 128);
        x.set(1, 9);
        Check.due("all nine are burnt", x.coming(2, 0), NineBooks.NONE);
    }

    // ---- promises 9 and 10

    private static void firstAndLastBookAreBurnt() {
        NineBooks x = Check.with(Scene.NINES, "");
        Check.due("burn 0", x.burn(0), 1);
        Check.due("burn 8", x.burn(8), 2);
        Check.due("the rest is left", x.left(), 254);
    }

    private static void noSuchBookToBurn() {
        NineBooks x = Check.with(Scene.NINES, "");
        for (int book : new int[] {-1, 9, 31, 32, Check.FAR_BELOW, Check.FAR}) {
            Check.due("burn " + book, x.burn(book), BAD);
        }
        Check.due("none is burnt", x.count(4), 0);
        Check.due("all are left", x.left(), 511);
        Check.due("one that there is not, of no books", new NineBooks().burn(8), 1);
    }

    private static void burntAlready() {
        for (int book = 0; book <= 8; book++) {
            NineBooks x = new NineBooks();
            Check.due("once", x.burn(book), 1);
            Check.due("twice", x.burn(book), BAD);
            Check.due("it is one still", x.count(4), 1);
            Check.due("undone", x.back(), 0);
            Check.due("then once more", x.burn(book), 1);
        }
    }

    private static void nineAreBurntAtMost() {
        NineBooks x = Scene.allBurnt();
        Check.due("nine", x.count(4), 9);
        for (int book = -1; book <= 9; book++) {
            Check.due("a tenth, " + book, x.burn(book), BAD);
        }
        Check.due("nine still", x.count(4), 9);
    }

    private static void backToNone() {
        NineBooks x = Scene.allBurnt();
        for (int left = 8; left >= 0; left--) {
            Check.due("one is undone", x.back(), left);
        }
        Check.due("there is none", x.back(), NOT);
        Check.due("there is none still", x.back(), NOT);
        Check.due("none", x.count(4), 0);
        Check.due("of a new one", new NineBooks().back(), NOT);
    }

    private static void backIsTheLastOne() {
        NineBooks x = Scene.allBurnt();
        for (int book = 0; book <= 8; book++) {
            x.back();
            Check.due("book " + book + " was the last", x.left(), (2 << book) - 1);
        }
    }

    // ---- promise 11

    private static void readOfNoItems() {
        for (int form = BYTES; form <= INTS; form++) {
            NineBooks x = new NineBooks();
            x.sheet(2, form, 0);
            Check.due("no items", x.read(2), 0);
            Check.due("none is burnt", x.count(4), 0);
        }
    }

    private static int readOf(NineBooks x, int... items) {
        Check.fill(x, 1, items);
        return x.read(1);
    }

    private static void readUpToTheFirstRefused() {
        int[][] rows = {{-1, 0}, {9, 0}, {Check.FAR_BELOW, 0}, {Check.FAR, 0}, {3, 0}, {0, -1, 1},
            {0, 9, 1}, {0, 0, 1}, {0, 1, 3, 2}, {8}, {8, 7, 8}};
        int[] took = {0, 0, 0, 0, 0, 1, 1, 1, 2, 1, 2};
        for (int i = 0; i < rows.length; i++) {
            NineBooks x = new NineBooks();
            x.burn(3);
            Check.due("row " + i, readOf(x, rows[i]), took[i]);
            Check.due("burnt by row " + i, x.count(4), 1 + took[i]);
            Check.due("row " + i + " once more", x.read(1), 0);
            Check.due("it takes none", x.count(4), 1 + took[i]);
        }
    }

    private static void readAllNine() {
        NineBooks x = Check.with(Scene.NINES, "");
        Check.due("all nine", readOf(x, 8, 0, 7, 1, 6, 2, 5, 3, 4), 9);
        Check.due("all are burnt", x.left(), 0);
        x.back();
        Check.due("in their order", x.left(), 16);
        x.back();
        Check.due("then the one before", x.left(), 24);
    }

    private static void readBehindNine() {
        NineBooks x = Scene.allBurnt();
        Check.due("no more than nine", readOf(x, 0), 0);
        Check.due("no more of any", readOf(x, 9, 1), 0);
        NineBooks y = new NineBooks();
        int[] row = new int[48];
        for (int i = 0; i < 48; i++) {
            row[i] = i;
        }
        Check.fill(y, 1, row);
        Check.due("a full row, up to 9", y.read(1), 9);
    }

    private static void readOfEachForm() {
        for (int form = BYTES; form <= INTS; form++) {
            NineBooks x = new NineBooks();
            x.sheet(3, form, 3);
            x.put(3, form, 0, 8);
            x.put(3, form, 1, 256);
            x.put(3, form, 2, 65541);
            // 256 of bytes is 0, 65541 of bytes and of shorts is 5.
            Check.due("form " + form, x.read(3), form == BYTES ? 3 : 1);
        }
    }

    private static void readOfSheetsThatAreNot() {
        NineBooks x = Scene.full();
        for (int s : new int[] {-1, 4, Check.FAR_BELOW, Check.FAR}) {
            Check.due("no sheet " + s, x.read(s), BAD);
        }
        Check.due("no finding", x.count(8), 0);
        Check.due("a lost one", x.read(3), NULL);
        x.lose(0);
        Check.due("one that is lost now", x.read(0), NULL);
        Check.due("as many are burnt", x.count(4), 3);
    }

    // ---- promise 12

    private static void leftOfNoBooks() {
        NineBooks x = new NineBooks();
        Check.due("no books", x.left(), 0);
        x.burn(0);
        Check.due("one burnt of none", x.left(), 0);
    }

    private static void leftOfAllAndOfNone() {
        Check.due("all nine", Check.with(Scene.NINES, "").left(), 511);
        Check.due("all burnt", Scene.allBurnt().left(), 0);
        NineBooks one = Check.with("0b.", "");
        Check.due("one", one.left(), 1);
        one.burn(0);
        Check.due("none", one.left(), 0);
    }

    private static void leftWithoutThoseThatThereAreNot() {
        NineBooks x = Check.with("1o.;1o.", "");
        x.burn(2);
        Check.due("one that there is not", x.left(), 3);
        Check.type(x, 0, ";1o.;1o.");
        Check.due("then it is there, burnt", x.left(), 11);
    }
}
