/** The boundary cases of promises 1 to 7, each sentence by tests of its own. */
public final class TextEdgesTest {
    private static final int BAD = NineBooks.BAD, NOT = NineBooks.NOT, FULL = NineBooks.FULL;
    private static final int NONE = NineBooks.NONE;
    private static final int NULL = -11;
    private static final String[] TEXTS = {Scene.NINE, Scene.SIX};

    public static void main(String[] args) {
        newHasNoBooks();
        newHasNoKings();
        newHasOnlyLostSheets();
        newHasNothingElse();
        typedFromOneOn();
        typedUntilFull();
        fullByAnyBytes();
        wipedFullAndEmpty();
        undoneToEmpty();
        emptyIsWell();
        unendedHasItsFaultAtItsEnd();
        everyByteInEveryPlace();
        theFirstFaultIsTold();
        aFaultMakesItEmpty();
        aFaultIsMended();
        nineBooksAndNoMore();
        sixKingsAndNoMore();
        leastAndMostOfBooks();
        leastAndMostOfKings();
        Check.end();
    }

    // ---- promise 1

    private static void newHasNoBooks() {
        NineBooks x = new NineBooks();
        Check.due("no BOOKS", x.count(0), 0);
        Check.due("not the first", x.book(0, 0), BAD);
        Check.due("none of LEFT", x.left(), 0);
        Check.due("no bytes of BOOKS", x.undo(0), NOT);
    }

    private static void newHasNoKings() {
        NineBooks x = new NineBooks();
        Check.due("no KINGS", x.count(1), 0);
        Check.due("not the first", x.king(0, 0), BAD);
        Check.due("no bytes of KINGS", x.undo(1), NOT);
    }

    private static void newHasOnlyLostSheets() {
        for (int s = 0; s <= 3; s++) {
            NineBooks x = new NineBooks();
            Check.type(x, 1, "000");
            Check.due("nothing to lose", x.lose(s), NULL);
            Check.due("nothing to read", x.read(s), NULL);
            Check.due("nothing to put", x.put(s, 0, 0, 0), NULL);
            Check.due("nothing to write on", x.write(0, s), NULL);
            Check.due("nothing to copy", x.copy(s, 0, s, 0, 0), NULL);
            x.sheet(0, 0, -1);
            Check.due("nothing to get", x.get(s, 0, 0), Check.FAR_BELOW);
            Check.due("for it is lost", x.count(8), 1);
        }
    }

    private static void newHasNothingElse() {
        NineBooks x = new NineBooks();
        Check.due("no finding", x.count(8), 0);
        Check.due("none burnt", x.back(), NOT);
        Check.due("no pages", x.forget(0), 0);
        Check.due("none said", x.forget(1), 0);
        Check.due("price", x.set(0, 0), 30);
        Check.due("burns", x.set(1, 1), 3);
        Check.due("doubt", x.set(2, 0), 8);
    }

    // ---- promises 2 to 4

    private static void typedFromOneOn() {
        for (int text = 0; text <= 1; text++) {
            NineBooks x = new NineBooks();
            Check.due("the least byte", x.type(text, 0), 1);
            Check.due("the most", x.type(text, 255), 2);
            Check.due("one less", x.type(text, -1), BAD);
            Check.due("one more", x.type(text, 256), BAD);
            Check.due("the least int", x.type(text, Check.FAR_BELOW), BAD);
            Check.due("the greatest", x.type(text, Check.FAR), BAD);
            Check.due("a byte behind them", x.type(text, '0'), 3);
            Check.due("no byte of the other", x.count(3 - text), 0);
        }
    }

    private static void typedUntilFull() {
        for (int text = 0; text <= 1; text++) {
            NineBooks x = new NineBooks();
            for (int i = 0; i < TEXTS[text].length(); i++) {
                Check.due("byte " + i + " of " + text, x.type(text, TEXTS[text].charAt(i)), i + 1);
            }
            int most = text == 0 ? 35 : 23;
            Check.due("all bytes of " + text, x.count(2 + text), most);
            Check.due("one too many of " + text, x.type(text, ';'), FULL);
            Check.due("it is not there", x.count(2 + text), most);
            Check.due("no fault by it", x.fault(text), NONE);
            Check.due("room in the other", x.type(1 - text, '0'), 1);
        }
    }

    private static void fullByAnyBytes() {
        for (int text = 0; text <= 1; text++) {
            NineBooks x = new NineBooks();
            int most = text == 0 ? 35 : 23;
            for (int i = 0; i < most; i++) {
                Check.due("a byte in vain", x.type(text, 200), i + 1);
            }
            Check.due("a text with a fault is full, too", x.type(text, 200), FULL);
            Check.due("all of it is wiped", x.wipe(text), most);
        }
    }

    private static void wipedFullAndEmpty() {
        for (int text = 0; text <= 1; text++) {
            NineBooks x = Check.with(Scene.NINE, Scene.SIX);
            Check.due("a full one", x.wipe(text), text == 0 ? 35 : 23);
            Check.due("an empty one", x.wipe(text), 0);
            Check.due("the other is there", x.wipe(1 - text), text == 0 ? 23 : 35);
            Check.due("empty is well", x.fault(text), NONE);
            Check.due("the first byte again", x.type(text, '1'), 1);
            Check.due("one byte", x.wipe(text), 1);
        }
    }

    private static void undoneToEmpty() {
        for (int text = 0; text <= 1; text++) {
            NineBooks x = Check.with(Scene.NINE, Scene.SIX);
            for (int left = TEXTS[text].length() - 1; left >= 0; left--) {
                Check.due("one less of " + text, x.undo(text), left);
            }
            Check.due("it is empty", x.undo(text), NOT);
            Check.due("it is empty still", x.undo(text), NOT);
            Check.due("no bytes", x.count(2 + text), 0);
            Check.due("the other is as it was", x.count(3 - text), TEXTS[1 - text].length());
        }
    }

    // ---- promise 5

    private static void emptyIsWell() {
        NineBooks x = new NineBooks();
        Check.due("no books are well", x.fault(0), NONE);
        Check.due("no kings are well", x.fault(1), NONE);
    }

    /** Well after each third byte of an entry; elsewhere, behind a ; too, it is not ended. */
    private static void unendedHasItsFaultAtItsEnd() {
        for (int text = 0; text <= 1; text++) {
            NineBooks x = new NineBooks();
            for (int i = 0; i < TEXTS[text].length(); i++) {
                x.type(text, TEXTS[text].charAt(i));
                boolean ended = i % 4 == 2;
                Check.due("fault of " + (i + 1) + " bytes", x.fault(text), ended ? NONE : i + 1);
                Check.due("entries of them", x.count(text), ended ? (i + 2) / 4 : 0);
            }
        }
    }

    private static void everyByteInEveryPlace() {
        String figures = "0123456789";
        String[][] well = {{figures, "obp", ".012345678", ";"}, {figures, figures, figures, ";"}};
        for (int text = 0; text <= 1; text++) {
            int[] places = text == 0 ? new int[] {0, 1, 2, 3, 32, 33, 34} : new int[] {0, 1, 2, 3, 22};
            for (int place : places) {
                NineBooks x = new NineBooks();
                Check.type(x, text, TEXTS[text].substring(0, place));
                for (int b = 0; b <= 255; b++) {
                    x.type(text, b);
                    boolean fits = well[text][place % 4].indexOf((char) b) >= 0;
                    int end = place % 4 == 2 ? NONE : place + 1;
                    String what = "fault of text " + text + " by " + b + " at " + place;
                    Check.due(what, x.fault(text), fits ? end : place);
                    x.undo(text);
                }
            }
        }
    }

    private static void theFirstFaultIsTold() {
        Check.due("of two faults", Check.with("1o.;x?", "").fault(0), 4);
        Check.due("at the first byte", Check.with("", "?12;?").fault(1), 0);
        Check.due("ahead of an end", Check.with("1x", "").fault(0), 1);
        Check.due("at the last byte", Check.with("", Scene.SIX.substring(0, 22) + "?").fault(1), 22);
        Check.due("of books, too", Check.with(Scene.NINE.substring(0, 34) + "9", "").fault(0), 34);
    }

    private static void aFaultMakesItEmpty() {
        NineBooks x = Scene.full();
        x.undo(0);
        x.undo(1);
        Check.due("the fault of books", x.fault(0), 34);
        Check.due("the fault of kings", x.fault(1), 22);
        Check.due("no books", x.count(0), 0);
        Check.due("no kings", x.count(1), 0);
        Check.due("the first book", x.book(0, 0), BAD);
        Check.due("the first king", x.king(0, 0), BAD);
        Check.due("none left", x.left(), 0);
        Check.due("no use", x.use(511), 0);
        Check.due("no loss", x.loss(), 0);
        Check.due("nothing is enough", x.enough(1), NONE);
        Check.due("none is dearest", x.dearest(), NONE);
        Check.due("no gain", x.gain(0, 511), BAD);
        Check.due("no trust", x.trust(0), Check.refused(NOT));
        Check.due("no fourth", x.fourth(), 0);
        Check.due("none comes", x.coming(1, 0), NONE);
        Check.due("its burnings stay", x.count(4), 3);
    }

    private static void aFaultIsMended() {
        NineBooks x = Scene.full();
        x.undo(0);
        x.type(0, '9');
        Check.due("leans on a tenth", x.fault(0), 34);
        x.undo(0);
        x.type(0, '.');
        Check.due("leans on none", x.book(8, 2), NONE);
        Check.due("all are there", x.count(0), 9);
        Check.due("those that are burnt are so still", x.left(), 511 - 2 - 64 - 128);
    }

    // ---- promises 6 and 7

    private static void nineBooksAndNoMore() {
        for (int many = 0; many <= 9; many++) {
            String text = many == 0 ? "" : Scene.NINES.substring(0, 4 * many - 1);
            NineBooks x = Check.with(text, "");
            Check.due(many + " books", x.count(0), many);
            Check.due("the last of " + many, x.book(many - 1, 0), many == 0 ? BAD : 9);
            Check.due("one more than " + many, x.book(many, 0), BAD);
            Check.due("as bits", x.left(), (1 << many) - 1);
        }
        NineBooks nine = Check.with(Scene.NINES, "");
        Check.due("no room for a tenth", nine.type(0, ';'), FULL);
        Check.due("no tenth", nine.book(9, 0), BAD);
    }

    private static void sixKingsAndNoMore() {
        for (int many = 0; many <= 6; many++) {
            String text = many == 0 ? "" : Scene.SIX.substring(0, 4 * many - 1);
            NineBooks x = Check.with("", text);
            Check.due(many + " kings", x.count(1), many);
            Check.due("the last of " + many, x.king(many - 1, 0) == BAD ? 0 : 1, many == 0 ? 0 : 1);
            Check.due("one more than " + many, x.king(many, 0), BAD);
        }
        NineBooks six = Check.with("", Scene.SIX);
        Check.due("no room for a seventh", six.type(1, ';'), FULL);
        Check.due("no seventh", six.king(6, 1), BAD);
    }

    private static void leastAndMostOfBooks() {
        NineBooks x = Check.with("0o.;9b0;5p8", "");
        Check.due("least worth", x.book(0, 0), 0);
        Check.due("most worth", x.book(1, 0), 9);
        Check.due("any kind", x.book(0, 1), 0);
        Check.due("blank", x.book(1, 1), 1);
        Check.due("of the past", x.book(2, 1), 2);
        Check.due("leans on none", x.book(0, 2), NONE);
        Check.due("leans on the least", x.book(1, 2), 0);
        Check.due("leans on the most, which there is not", x.book(2, 2), 8);
        for (int book : new int[] {-1, 3, Check.FAR, Check.FAR_BELOW}) {
            Check.due("no book " + book, x.book(book, 0), BAD);
        }
        for (int what : new int[] {-1, 3, Check.FAR, Check.FAR_BELOW}) {
            Check.due("no what " + what, x.book(0, what), BAD);
        }
    }

    private static void leastAndMostOfKings() {
        NineBooks x = Check.with("", "000;999;010;100");
        int[] has = {0, 99, 1, 10};
        int[] need = {0, 9, 0, 0};
        for (int king = 0; king < 4; king++) {
            Check.due("what " + king + " has", x.king(king, 0), has[king]);
            Check.due("its need", x.king(king, 1), need[king]);
        }
        for (int king : new int[] {-1, 4, Check.FAR, Check.FAR_BELOW}) {
            Check.due("no king " + king, x.king(king, 0), BAD);
        }
        for (int what : new int[] {-1, 2, Check.FAR, Check.FAR_BELOW}) {
            Check.due("no what " + what, x.king(0, what), BAD);
        }
    }
}
