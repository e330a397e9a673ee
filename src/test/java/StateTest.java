/** Promises 1, 37 and 38: a new object, count and digest. */
public final class StateTest {
    private static final int BAD = NineBooks.BAD, NONE = NineBooks.NONE;
    private static final long NOT = Check.refused(NineBooks.NOT);

    public static void main(String[] args) {
        constants();
        newObject();
        objectsApart();
        counts();
        digestOfNone();
        digestOfSome();
        digestOfLess();
        digestOfMany();
        digestOfFaults();
        digestChangesNothing();
        Check.end();
    }

    private static void constants() {
        Check.due("NONE", NineBooks.NONE, -1);
        Check.due("BAD", NineBooks.BAD, -2);
        Check.due("NOT", NineBooks.NOT, -3);
        Check.due("FULL", NineBooks.FULL, -4);
    }

    private static void newObject() {
        NineBooks x = new NineBooks();
        for (int what = 0; what <= 8; what++) {
            Check.due("count " + what, x.count(what), 0);
        }
        Check.due("fault of books", x.fault(0), NONE);
        Check.due("fault of kings", x.fault(1), NONE);
        Check.due("left", x.left(), 0);
        for (int s = 0; s < 4; s++) {
            Check.due("lose " + s, x.lose(s), -11);
        }
    }

    private static void objectsApart() {
        NineBooks x = Check.with("1o.", "123");
        x.burn(0);
        x.set(0, 1);
        x.sheet(0, 0, 1);
        NineBooks y = new NineBooks();
        Check.due("books of another", y.count(0), 0);
        Check.due("burnt of another", y.count(4), 0);
        Check.due("price of another", y.set(0, 2), 30);
        Check.due("sheet of another", y.lose(0), -11);
    }

    private static void counts() {
        NineBooks x = Check.with("1b.;2o.;3b0", "123;456");
        x.burn(2);
        x.burn(8);
        x.page(1);
        x.page(0);
        x.page(0);
        x.said(0, 1, 1);
        x.sheet(0, 0, -1);
        int[] due = {3, 2, 11, 7, 2, 3, 1, 1, 5};
        for (int what = 0; what <= 8; what++) {
            Check.due("count " + what, x.count(what), due[what]);
        }
        Check.due("count -1", x.count(-1), BAD);
        Check.due("count 9", x.count(9), BAD);
        x.type(0, 'x');
        Check.due("no books by a fault", x.count(0), 0);
        Check.due("its bytes", x.count(2), 12);
        Check.due("no blank ones", x.count(7), 0);
        x.undo(1);
        Check.due("no kings by a fault", x.count(1), 0);
        Check.due("their bytes", x.count(3), 6);
        Check.due("the ninth is blank",
            Check.with("1o.;1o.;1o.;1o.;1o.;1o.;1o.;1o.;1b.", "").count(7), 1);
        Check.due("kinds by kind alone", Check.with("0b8;0o.;0p.;5b.", "").count(7), 2);
    }

    private static long fold(long... told) {
        long h = 17;
        for (long next : told) {
            h = 31 * h + next;
        }
        return h;
    }

    private static void digestOfNone() {
        NineBooks x = new NineBooks();
        Check.due("digest of none", x.digest(), fold(0, 0, 0, 0, 0, 0, 0, 0, -1, -1,
            0, 0, 0, NONE, NONE, NOT, NOT, 0, NONE, NONE));
    }

    private static void digestOfSome() {
        // The first lot by seed 7 is 52332: of two kings king 0 comes, to whom 13 is enough.
        NineBooks x = Check.with("5o.;8b.;7p.;9o0", "401;132");
        x.set(0, 13);
        x.page(1);
        x.said(1, 0, 1);
        x.burn(2);
        Check.due("digest of some", x.digest(), fold(4, 2, 15, 7, 1, 1, 1, 1, -1, -1,
            5, 0, -1, 8, 1, -1, 7, 2, -1, 9, 0, 0,
            40, 1, 17, 2, 1, 1, 1, 1, 0, 1, 14, 1, BAD, BAD,
            13, 2, 34, 2, 15, 1, 1, 1, 0, 1, 13, 1, 0, 13,
            11, 14, 3, 9, 0, 1, 4, 0, 11, 0));
    }

    private static void digestOfLess() {
        NineBooks x = Check.with("5o.", "991;991");
        x.burn(0);
        x.set(0, 6);
        Check.due("digest of less", x.digest(), fold(1, 2, 3, 7, 1, 0, 0, 0, -1, -1,
            5, 0, -1,
            99, 1, 5, 0, 0, 1, 0, 1, 0, 1, 0, 1, BAD, BAD,
            99, 1, 5, 0, 0, 1, 0, 1, 0, 1, 0, 1, 1, 5,
            0, 0, 5, NONE, NONE, NOT, NOT, 1, NONE, NONE));
    }

    private static void digestOfMany() {
        NineBooks x = Check.with("9o.;9o.;9o.;9o.;9o.;9o.;9o.;9o.;9o.", "201;991;501");
        x.set(0, 27);
        x.set(1, 1);
        Check.due("digest of many", x.digest(), fold(9, 3, 35, 11, 0, 0, 0, 0, -1, -1,
            9, 0, -1, 9, 0, -1, 9, 0, -1, 9, 0, -1, 9, 0, -1, 9, 0, -1, 9, 0, -1, 9, 0, -1, 9, 0, -1,
            20, 1, 81, 0, 0, 1, 0, 1, 20, 1, 20, 1, BAD, BAD,
            99, 1, 81, 2, 54, 1, 1, 1, 20, 1, 81, 1, 0, 20,
            50, 1, 81, 2, 54, 1, 1, 1, 20, 1, 50, 1, 0, 20,
            511, 81, 0, 1, 0, 1, 2, 0, 479, 2));
    }

    private static void digestOfFaults() {
        NineBooks x = Check.with("1o", "123;");
        Check.due("digest of faults", x.digest(), fold(0, 0, 2, 4, 0, 0, 0, 0, 2, 4,
            0, 0, 0, NONE, NONE, NOT, NOT, 0, NONE, NONE));
    }

    private static void digestChangesNothing() {
        NineBooks x = Check.with("5o.;8b.;7p.;9o0", "401;132");
        x.lose(0);
        long first = x.digest();
        Check.due("digest again", x.digest(), first);
        Check.due("no finding by it", x.count(8), 1);
        Check.due("price", x.set(0, 30), 30);
        Check.due("burns", x.set(1, 3), 3);
        x.burn(8);
        Check.due("another digest", x.digest() == first ? 1 : 0, 0);
    }
}
