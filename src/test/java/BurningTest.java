/** Promises 8 to 12: what she asks, and what she burns. */
public final class BurningTest {
    private static final int BAD = NineBooks.BAD, NOT = NineBooks.NOT;
    private static final int NULL = -11;

    public static void main(String[] args) {
        settings();
        burning();
        undoing();
        reading();
        left();
        Check.end();
    }

    private static void settings() {
        NineBooks x = new NineBooks();
        int[] first = {30, 3, 8};
        int[] least = {0, 1, 0};
        int[] most = {99, 9, 16};
        for (int what = 0; what < 3; what++) {
            Check.due("first of " + what, x.set(what, least[what]), first[what]);
            Check.due("least of " + what, x.set(what, most[what]), least[what]);
            Check.due("below " + what, x.set(what, least[what] - 1), BAD);
            Check.due("above " + what, x.set(what, most[what] + 1), BAD);
            Check.due("far of " + what, x.set(what, Check.FAR_BELOW), BAD);
            Check.due("most of " + what, x.set(what, least[what]), most[what]);
        }
        Check.due("set -1", x.set(-1, 5), BAD);
        Check.due("set 3", x.set(3, 5), BAD);
    }

    private static void burning() {
        NineBooks x = Check.with("1o.;2o.", "");
        Check.due("burn -1", x.burn(-1), BAD);
        Check.due("burn 9", x.burn(9), BAD);
        Check.due("far burn", x.burn(Check.FAR), BAD);
        Check.due("burn 32", x.burn(32), BAD);
        Check.due("burn one that there is not", x.burn(8), 1);
        Check.due("left are all", x.left(), 3);
        Check.due("burn 1", x.burn(1), 2);
        Check.due("burn 1 again", x.burn(1), BAD);
        Check.due("burn 8 again", x.burn(8), BAD);
        Check.due("left is one", x.left(), 1);
        Check.due("two burnt", x.count(4), 2);
        for (int book = 0; book < 8; book++) {
            Check.due("burn " + book, x.burn(book), book == 1 ? BAD : book < 1 ? 3 : book + 2);
        }
        Check.due("nine burnt", x.count(4), 9);
        Check.due("none left", x.left(), 0);
    }

    private static void undoing() {
        NineBooks x = Check.with("1o.;2o.;3o.", "");
        Check.due("back of none", x.back(), NOT);
        x.burn(2);
        x.burn(0);
        x.burn(1);
        Check.due("back", x.back(), 2);
        Check.due("the last one is back", x.left(), 2);
        Check.due("back again", x.back(), 1);
        Check.due("then the one before", x.left(), 3);
        Check.due("burn it again", x.burn(0), 2);
        Check.due("back to one", x.back(), 1);
        Check.due("back to none", x.back(), 0);
        Check.due("all left", x.left(), 7);
        Check.due("back of none again", x.back(), NOT);
    }

    private static void reading() {
        NineBooks x = Check.with("1o.;2o.;3o.;4o.;5o.", "");
        Check.due("read -1", x.read(-1), BAD);
        Check.due("read 4", x.read(4), BAD);
        Check.due("no finding by BAD", x.count(8), 0);
        Check.due("read a lost one", x.read(0), NULL);
        Check.due("its finding", x.count(8), 1);
        Check.fill(x, 0, 3, 1, 4);
        x.burn(0);
        Check.due("read three", x.read(0), 3);
        Check.due("four burnt", x.count(4), 4);
        Check.due("one left", x.left(), 4);
        Check.due("the last item is the last burnt", x.back(), 3);
        Check.due("it is left", x.left(), 4 | 16);
        Check.due("up to one that is burnt", x.read(0), 0);
        x.back();
        x.back();
        Check.due("one burnt", x.count(4), 1);
        Check.fill(x, 0, 2, 9, 3);
        Check.due("up to 9", x.read(0), 1);
        Check.fill(x, 0, 3, -1, 4);
        Check.due("up to -1", x.read(0), 1);
        Check.fill(x, 0, 4, 4, 1);
        Check.due("up to one twice", x.read(0), 1);
        Check.due("four burnt again", x.count(4), 4);
        x.sheet(0, 0, 0);
        Check.due("of no items", x.read(0), 0);
        x.sheet(3, 0, 1);
        x.put(3, 0, 0, 8);
        Check.due("of bytes, one that there is not", x.read(3), 1);
        x.sheet(3, 1, 2);
        x.put(3, 1, 0, 7);
        x.put(3, 1, 1, 1);
        Check.due("of shorts", x.read(3), 2);
        Check.due("seven burnt", x.count(4), 7);
        NineBooks y = new NineBooks();
        Check.fill(y, 1, 8, 7, 6, 5, 4, 3, 2, 1, 0, 0);
        Check.due("nine at most", y.read(1), 9);
    }

    private static void left() {
        NineBooks x = new NineBooks();
        Check.due("left of none", x.left(), 0);
        x.burn(1);
        Check.type(x, 0, "1o.;1b.;1p2");
        Check.due("burnt before it was there", x.left(), 5);
        x.type(0, 'x');
        Check.due("left by a fault", x.left(), 0);
        Check.due("all nine", Check.with("1o.;2o.;3o.;4o.;5o.;6o.;7o.;8o.;9o.", "").left(), 511);
    }
}
