/** Promises 2 to 7: the texts of books and of kings. */
public final class TextsTest {
    private static final int BAD = NineBooks.BAD, NOT = NineBooks.NOT, FULL = NineBooks.FULL;
    private static final int NONE = NineBooks.NONE;
    private static final String NINE = "1o.;2o.;3o.;4o.;5o.;6o.;7o.;8o.;9o.";
    private static final String SIX = "101;202;303;404;505;606";

    public static void main(String[] args) {
        typing();
        wiping();
        undoing();
        faultsOfBooks();
        faultsOfKings();
        books();
        kings();
        Check.end();
    }

    private static void typing() {
        NineBooks x = new NineBooks();
        Check.due("type least byte", x.type(0, 0), 1);
        Check.due("type most byte", x.type(0, 255), 2);
        Check.due("type other text", x.type(1, '1'), 1);
        Check.due("type byte -1", x.type(0, -1), BAD);
        Check.due("type byte 256", x.type(0, 256), BAD);
        Check.due("type far byte", x.type(0, Check.FAR), BAD);
        Check.due("type text -1", x.type(-1, '1'), BAD);
        Check.due("type text 2", x.type(2, '1'), BAD);
        Check.due("bytes of books", x.count(2), 2);
        Check.due("bytes of kings", x.count(3), 1);

        NineBooks full = Check.with(NINE, SIX);
        Check.due("35 bytes", full.count(2), 35);
        Check.due("23 bytes", full.count(3), 23);
        Check.due("the 36th byte", full.type(0, ';'), FULL);
        Check.due("the 24th byte", full.type(1, ';'), FULL);
        Check.due("BAD before FULL", full.type(0, 256), BAD);
        Check.due("BAD before FULL, kings", full.type(1, -1), BAD);
        Check.due("nine are still there", full.count(0), 9);
        Check.due("six are still there", full.count(1), 6);
        Check.due("room again", full.undo(0), 34);
        Check.due("room is used", full.type(0, '8'), 35);
        Check.due("the last one leans", full.book(8, 2), 8);
    }

    private static void wiping() {
        NineBooks x = Check.with("1o.;2b0", "123");
        Check.due("wipe -1", x.wipe(-1), BAD);
        Check.due("wipe 2", x.wipe(2), BAD);
        Check.due("wipe books", x.wipe(0), 7);
        Check.due("no books", x.count(0), 0);
        Check.due("kings stay", x.count(1), 1);
        Check.due("wipe none", x.wipe(0), 0);
        Check.due("wipe kings", x.wipe(1), 3);
        Check.due("no kings", x.count(1), 0);
        Check.type(x, 0, "1ox");
        Check.due("a fault", x.fault(0), 2);
        Check.due("wipe a fault", x.wipe(0), 3);
        Check.due("no fault then", x.fault(0), NONE);
        Check.type(x, 0, "7p.");
        Check.due("a new one", x.book(0, 0), 7);
    }

    private static void undoing() {
        NineBooks x = Check.with("1o.;2", "12");
        Check.due("undo -1", x.undo(-1), BAD);
        Check.due("undo 2", x.undo(2), BAD);
        Check.due("undo 2", x.undo(0), 4);
        Check.due("fault at the end", x.fault(0), 4);
        Check.due("undo ;", x.undo(0), 3);
        Check.due("well then", x.fault(0), NONE);
        Check.due("one book", x.count(0), 1);
        Check.due("undo .", x.undo(0), 2);
        Check.due("none then", x.count(0), 0);
        Check.due("undo o", x.undo(0), 1);
        Check.due("undo 1", x.undo(0), 0);
        Check.due("undo of none", x.undo(0), NOT);
        Check.due("well empty", x.fault(0), NONE);
        Check.due("undo a king's byte", x.undo(1), 1);
        Check.due("undo it, too", x.undo(1), 0);
        Check.due("undo of no kings", x.undo(1), NOT);
    }

    private static void faultsOfBooks() {
        Check.due("fault of text -1", new NineBooks().fault(-1), BAD);
        Check.due("fault of text 2", new NineBooks().fault(2), BAD);
        String[] texts = {"", "0o.", "9b0", "5p8", NINE, "1o.;2b0", "1", "1o", "1o.;", "1o.;2",
            "1o.;2p", "1o.;2p0;", "o", ";", "1O.", "1x.", "1.o", "1o9", "1o;", "1o.1", "1o..",
            "1o.,2o.", "1o.;;", "1o.;x", "1o.;2x3x", "11o", "/o.", ":o.", "1a.", "1o/", "1 ."};
        int[] faults = {NONE, NONE, NONE, NONE, NONE, NONE, 1, 2, 4, 5,
            6, 8, 0, 0, 1, 1, 1, 2, 2, 3, 3,
            3, 4, 4, 5, 1, 0, 0, 1, 2, 1};
        for (int i = 0; i < texts.length; i++) {
            NineBooks x = Check.with(texts[i], "");
            Check.due("fault of " + texts[i], x.fault(0), faults[i]);
            int there = faults[i] == NONE ? (texts[i].length() + 1) / 4 : 0;
            Check.due("books of " + texts[i], x.count(0), there);
            Check.due("bytes of " + texts[i], x.count(2), texts[i].length());
            Check.due("other fault", x.fault(1), NONE);
        }
        NineBooks high = new NineBooks();
        high.type(0, 128 + '1');
        Check.due("fault of a high byte", high.fault(0), 0);
    }

    private static void faultsOfKings() {
        String[] texts = {"", "000", "999", SIX, "1", "12", "123;", "123;4", "123;45", "x23", "1x3",
            "12x", "123x", "1234", "123;;", "12.", ";", "123;45;", "/00", "0:0"};
        int[] faults = {NONE, NONE, NONE, NONE, 1, 2, 4, 5, 6, 0, 1,
            2, 3, 3, 4, 2, 0, 6, 0, 1};
        for (int i = 0; i < texts.length; i++) {
            NineBooks x = Check.with("", texts[i]);
            Check.due("fault of " + texts[i], x.fault(1), faults[i]);
            int there = faults[i] == NONE ? (texts[i].length() + 1) / 4 : 0;
            Check.due("kings of " + texts[i], x.count(1), there);
            Check.due("bytes of " + texts[i], x.count(3), texts[i].length());
            Check.due("other fault", x.fault(0), NONE);
        }
    }

    private static void books() {
        NineBooks x = Check.with("0o.;9b0;5p8", "");
        int[][] due = {{0, 0, NONE}, {9, 1, 0}, {5, 2, 8}};
        for (int book = 0; book < 3; book++) {
            for (int what = 0; what < 3; what++) {
                Check.due("book " + book + ", " + what, x.book(book, what), due[book][what]);
            }
            Check.due("book what -1", x.book(book, -1), BAD);
            Check.due("book what 3", x.book(book, 3), BAD);
        }
        Check.due("book -1", x.book(-1, 0), BAD);
        Check.due("book 3", x.book(3, 0), BAD);
        Check.due("far book", x.book(Check.FAR, 0), BAD);
        x.burn(1);
        Check.due("a burnt one was a book", x.book(1, 0), 9);
        x.type(0, ';');
        Check.due("no book by a fault", x.book(0, 0), BAD);
        Check.due("no use by a fault", x.use(511), 0);
        x.undo(0);
        Check.due("it is there again", x.book(2, 2), 8);
        Check.due("no books", new NineBooks().book(0, 0), BAD);
        NineBooks nine = Check.with(NINE, "");
        Check.due("the ninth", nine.book(8, 0), 9);
        Check.due("a tenth", nine.book(9, 0), BAD);
    }

    private static void kings() {
        NineBooks x = Check.with("", "405;039;990");
        int[][] due = {{40, 5}, {3, 9}, {99, 0}};
        for (int king = 0; king < 3; king++) {
            Check.due("has of " + king, x.king(king, 0), due[king][0]);
            Check.due("need of " + king, x.king(king, 1), due[king][1]);
            Check.due("king what -1", x.king(king, -1), BAD);
            Check.due("king what 2", x.king(king, 2), BAD);
        }
        Check.due("king -1", x.king(-1, 0), BAD);
        Check.due("king 3", x.king(3, 0), BAD);
        x.type(1, '1');
        Check.due("no king by a fault", x.king(0, 0), BAD);
        Check.due("a sixth", Check.with("", SIX).king(5, 0), 60);
        Check.due("a seventh", Check.with("", SIX).king(6, 0), BAD);
    }
}
