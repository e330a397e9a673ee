/** The boundary cases of promises 25 to 30, each sentence by tests of its own. */
public final class PageEdgesTest {
    private static final int BAD = NineBooks.BAD, FULL = NineBooks.FULL, NONE = NineBooks.NONE;
    private static final long LONG_BAD = -9223372036854775806L, LONG_NOT = -9223372036854775805L;

    public static void main(String[] args) {
        ninePagesAndNoMore();
        pagesThatAreNotSo();
        trustByNoPages();
        trustByNinePages();
        trustIsInLowestTerms();
        trustWhenNoneIsLeft();
        trustThatCannotBe();
        trustByThoseLeft();
        badTrust();
        eightSayingsAndNoMore();
        leastAndMostSaid();
        sayingsThatAreNotSo();
        forgottenFullAndEmpty();
        badForgetting();
        fourthOfNoneBurnt();
        fourthOfAllBurnt();
        fourthByLeastAndMost();
        fourthByAFullRow();
        noneComes();
        comesForJustSoMuch();
        seedsThatWrap();
        burnsOneAndAll();
        lastOfferOfNine();
        badComing();
        Check.end();
    }

    // ---- promise 25

    private static void ninePagesAndNoMore() {
        for (int blank = 0; blank <= 1; blank++) {
            NineBooks x = new NineBooks();
            for (int page = 1; page <= 9; page++) {
                Check.due("page " + page, x.page(blank), page);
            }
            Check.due("a tenth, not blank", x.page(0), FULL);
            Check.due("a tenth, blank", x.page(1), FULL);
            Check.due("nine still", x.count(5), 9);
            Check.due("forgotten", x.forget(0), 9);
            Check.due("room again", x.page(1), 1);
        }
        NineBooks x = new NineBooks();
        for (int page = 0; page < 9; page++) {
            x.page(page % 2);
        }
        Check.due("a tenth of both", x.page(0), FULL);
        Check.due("of no books, too", Scene.allBurnt().page(1), 1);
    }

    private static void pagesThatAreNotSo() {
        NineBooks x = new NineBooks();
        for (int blank : new int[] {-1, 2, Check.FAR_BELOW, Check.FAR}) {
            Check.due("page " + blank, x.page(blank), BAD);
        }
        Check.due("none of them", x.count(5), 0);
    }

    // ---- promise 26

    private static void dueTrust(String when, NineBooks x, long above, long below) {
        Check.due(when + ", above", x.trust(0), above);
        Check.due(when + ", below", x.trust(1), below);
    }

    private static NineBooks paged(String books, int doubt, int blank, int others) {
        NineBooks x = Check.with(books, "");
        x.set(2, doubt);
        for (int page = 0; page < blank; page++) {
            x.page(1);
        }
        for (int page = 0; page < others; page++) {
            x.page(0);
        }
        return x;
    }

    private static void trustByNoPages() {
        int[] above = {1, 15, 7, 13, 3, 11, 5, 9, 1, 7, 3, 5, 1, 3, 1, 1, 0};
        int[] below = {1, 16, 8, 16, 4, 16, 8, 16, 2, 16, 8, 16, 4, 16, 8, 16, 1};
        for (int doubt = 0; doubt <= 16; doubt++) {
            dueTrust("by doubt " + doubt, paged("1o.", doubt, 0, 0), above[doubt], below[doubt]);
        }
    }

    private static void trustByNinePages() {
        String eight = "1b.;1b.;1b.;1b.;1b.;1b.;1b.;1b.;1o.";
        dueTrust("nine blank pages", paged(eight, 8, 9, 0), 134217728, 521638217);
        dueTrust("nearly no doubt", paged(eight, 1, 9, 0), 671088640, 800228803);
        dueTrust("one blank book of nine", paged("1b.;1o.;1o.;1o.;1o.;1o.;1o.;1o.;1o.", 15, 9, 0),
            1, 5811307336L);
        dueTrust("nine that are not blank", paged(eight, 15, 0, 9), 1, 1);
        dueTrust("all blank", paged("1b.;1b.;1b.;1b.;1b.;1b.;1b.;1b.;1b.", 8, 9, 0), 1, 2);
    }

    private static void trustIsInLowestTerms() {
        dueTrust("2 of 4 blank is 1 of 2", paged("1b.;1b.;1o.;1o.", 8, 1, 0), 1, 3);
        dueTrust("1 of 2", paged("1b.;1o.", 8, 1, 0), 1, 3);
        dueTrust("0 by 1", paged("1o.;1o.;1o.", 7, 5, 0), 0, 1);
        dueTrust("0 by 1, of all doubt", paged("1b.;1o.;1o.", 16, 5, 0), 0, 1);
        dueTrust("1 by 1, of no doubt", paged("1b.;1o.;1o.", 0, 5, 3), 1, 1);
    }

    private static void trustWhenNoneIsLeft() {
        dueTrust("all burnt", Scene.allBurnt(), LONG_NOT, LONG_NOT);
        dueTrust("no books", new NineBooks(), LONG_NOT, LONG_NOT);
        dueTrust("no books by a fault", Check.with("1o.;", ""), LONG_NOT, LONG_NOT);
        NineBooks x = paged("1b.", 8, 1, 0);
        dueTrust("one is left", x, 1, 2);
        x.burn(0);
        dueTrust("it is burnt", x, LONG_NOT, LONG_NOT);
        x.set(2, 0);
        dueTrust("no doubt, but none left", x, LONG_NOT, LONG_NOT);
        x.back();
        dueTrust("it is left again", x, 1, 1);
    }

    private static void trustThatCannotBe() {
        dueTrust("all doubt, not blank", paged("1o.", 16, 0, 1), LONG_NOT, LONG_NOT);
        dueTrust("nearly all doubt, not blank", paged("1o.", 15, 0, 1), 1, 1);
        dueTrust("no doubt, blank of none", paged("1o.", 0, 1, 0), LONG_NOT, LONG_NOT);
        dueTrust("some doubt, blank of none", paged("1o.", 1, 1, 0), 0, 1);
        dueTrust("not blank of blank ones", paged("1b.", 8, 0, 1), LONG_NOT, LONG_NOT);
        dueTrust("both of one", paged("1o.", 8, 1, 1), LONG_NOT, LONG_NOT);
        dueTrust("both of two", paged("1o.;1b.", 8, 1, 1), 1, 1);
    }

    private static void trustByThoseLeft() {
        NineBooks x = paged("1b.;1o.;1o.", 8, 1, 0);
        dueTrust("1 of 3 is blank", x, 1, 4);
        x.burn(1);
        dueTrust("1 of 2", x, 1, 3);
        x.burn(8);
        dueTrust("one burnt that there is not", x, 1, 3);
        x.burn(2);
        dueTrust("1 of 1", x, 1, 2);
    }

    private static void badTrust() {
        NineBooks x = Check.with("1o.", "");
        for (int what : new int[] {-1, 2, Check.FAR_BELOW, Check.FAR}) {
            Check.due("trust " + what, x.trust(what), LONG_BAD);
            Check.due("trust of none " + what, new NineBooks().trust(what), LONG_BAD);
        }
    }

    // ---- promises 27 and 28

    private static void eightSayingsAndNoMore() {
        NineBooks x = new NineBooks();
        for (int saying = 1; saying <= 8; saying++) {
            Check.due("saying " + saying, x.said(saying % 3, saying % 2, 1), saying);
        }
        for (int what = 0; what <= 2; what++) {
            Check.due("a ninth, " + what, x.said(what, 1, 0), FULL);
        }
        Check.due("eight still", x.count(6), 8);
        Check.due("forgotten", x.forget(1), 8);
        Check.due("room again", x.said(0, 0, 0), 1);
    }

    private static void leastAndMostSaid() {
        int[][] well = {{0, 9}, {0, 2}, {-1, 8}};
        for (int what = 0; what <= 2; what++) {
            for (int v : well[what]) {
                for (int is = 0; is <= 1; is++) {
                    Check.due("said " + what + ", " + v, new NineBooks().said(what, v, is), 1);
                }
            }
        }
    }

    private static void sayingsThatAreNotSo() {
        int[][] wrong = {{-1, 10}, {-1, 3}, {-2, 9}};
        NineBooks x = new NineBooks();
        for (int what = 0; what <= 2; what++) {
            for (int v : new int[] {wrong[what][0], wrong[what][1], Check.FAR_BELOW, Check.FAR}) {
                Check.due("said " + what + ", " + v, x.said(what, v, 1), BAD);
            }
            for (int is : new int[] {-1, 2, Check.FAR_BELOW, Check.FAR}) {
                Check.due("said " + what + " so " + is, x.said(what, 1, is), BAD);
            }
        }
        for (int what : new int[] {-1, 3, Check.FAR_BELOW, Check.FAR}) {
            Check.due("said " + what, x.said(what, 1, 1), BAD);
        }
        Check.due("none is said", x.count(6), 0);
    }

    private static void forgottenFullAndEmpty() {
        NineBooks x = new NineBooks();
        Check.due("no pages", x.forget(0), 0);
        Check.due("none said", x.forget(1), 0);
        for (int times = 0; times < 9; times++) {
            x.page(0);
            x.said(0, 9, 1);
        }
        Check.due("all pages", x.forget(0), 9);
        Check.due("no pages are there", x.count(5), 0);
        Check.due("all is said still", x.count(6), 8);
        x.page(1);
        Check.due("all said", x.forget(1), 8);
        Check.due("none is said", x.count(6), 0);
        Check.due("a page is there", x.count(5), 1);
        Check.due("none said again", x.forget(1), 0);
    }

    private static void badForgetting() {
        NineBooks x = Scene.full();
        for (int what : new int[] {-1, 2, Check.FAR_BELOW, Check.FAR}) {
            Check.due("forget " + what, x.forget(what), BAD);
        }
        Check.due("pages are there", x.count(5), 2);
        Check.due("what was said, too", x.count(6), 2);
    }

    // ---- promise 29

    private static void fourthOfNoneBurnt() {
        Check.due("no books", new NineBooks().fourth(), 0);
        NineBooks x = Check.with(Scene.NINE, "");
        Check.due("none burnt", x.fourth(), 0);
        NineBooks y = Check.with("1o.", "");
        y.burn(1);
        Check.due("one burnt that there is not", y.fourth(), 0);
        y.burn(0);
        Check.due("one that there is", y.fourth(), 1);
        y.type(0, ';');
        Check.due("none by a fault", y.fourth(), 0);
    }

    private static void fourthOfAllBurnt() {
        NineBooks x = Scene.allBurnt();
        Check.due("nothing is said: each may be", x.fourth(), 511);
        x.back();
        Check.due("each but the one that is undone", x.fourth(), 510);
    }

    private static int by(int what, int v, int is) {
        NineBooks x = Scene.allBurnt();
        x.said(what, v, is);
        return x.fourth();
    }

    /** Of 5o. 8o0 3b. 9p. 4o2 7o5 6b8 0p3 9o4. */
    private static void fourthByLeastAndMost() {
        Check.due("worth 0 or more", by(0, 0, 1), 511);
        Check.due("less than 0", by(0, 0, 0), 0);
        Check.due("worth 9", by(0, 9, 1), 8 + 256);
        Check.due("less than 9", by(0, 9, 0), 511 - 8 - 256);
        Check.due("worth 8 or more", by(0, 8, 1), 2 + 8 + 256);
        Check.due("any kind", by(1, 0, 1), 1 + 2 + 16 + 32 + 256);
        Check.due("blank", by(1, 1, 1), 4 + 64);
        Check.due("not blank", by(1, 1, 0), 511 - 4 - 64);
        Check.due("of the past", by(1, 2, 1), 8 + 128);
        Check.due("on none", by(2, -1, 1), 1 + 4 + 8);
        Check.due("on some", by(2, -1, 0), 511 - 1 - 4 - 8);
        Check.due("on 0", by(2, 0, 1), 2);
        Check.due("on 8", by(2, 8, 1), 64);
        Check.due("not on 8", by(2, 8, 0), 511 - 64);
        Check.due("on itself", by(2, 5, 1), 32);
        Check.due("on no such one", by(2, 7, 1), 0);
    }

    private static void fourthByAFullRow() {
        NineBooks x = Scene.allBurnt();
        for (int saying = 1; saying <= 7; saying++) {
            x.said(0, 0, 1);
        }
        Check.due("seven that say nothing", x.fourth(), 511);
        x.said(0, 9, 1);
        Check.due("the eighth tells", x.fourth(), 8 + 256);
        Check.due("a ninth is refused", x.said(1, 2, 1), FULL);
        Check.due("it does not tell", x.fourth(), 8 + 256);
        x.forget(1);
        x.said(0, 9, 1);
        for (int saying = 2; saying <= 8; saying++) {
            x.said(0, 0, 1);
        }
        Check.due("the first tells, too", x.fourth(), 8 + 256);
    }

    // ---- promise 30

    private static void dueComing(String call, NineBooks x, int seed, int set, int king) {
        Check.due(call + ", the set", x.coming(seed, 0), set);
        Check.due(call + ", by whom", x.coming(seed, 1), king);
    }

    private static NineBooks at(String books, String kings, int price, int burns) {
        NineBooks x = Check.with(books, kings);
        x.set(0, price);
        x.set(1, burns);
        return x;
    }

    private static void noneComes() {
        dueComing("no kings", at(Scene.NINES, "", 0, 3), 1, NONE, NONE);
        dueComing("no books", at("", "999", 0, 3), 1, NONE, NONE);
        dueComing("neither", new NineBooks(), 1, NONE, NONE);
        NineBooks x = Scene.allBurnt();
        x.set(0, 0);
        dueComing("all burnt", x, 1, NONE, NONE);
        dueComing("kings with a fault", at(Scene.NINES, "999;", 0, 3), 1, NONE, NONE);
    }

    private static void comesForJustSoMuch() {
        dueComing("a gain of as much", at("7o.", "993", 21, 3), 1, 1, 0);
        dueComing("a gain of less", at("7o.", "993", 22, 3), 1, NONE, NONE);
        dueComing("it has as much", at("9o.", "209", 20, 3), 1, 1, 0);
        dueComing("it has less", at("9o.", "199", 20, 3), 1, NONE, NONE);
        dueComing("nothing for nothing", at("0b.", "000", 0, 3), 1, 1, 0);
    }

    private static void seedsThatWrap() {
        // The first lots are 33676, 48697, 32768, 15929 and 0: the upper bit is no sign.
        NineBooks x = at(Scene.NINES, Scene.SIX, 0, 3);
        dueComing("seed 2", x, 2, 511, 4);
        dueComing("seed -1", x, -1, 511, 1);
        dueComing("the least seed", x, Check.FAR_BELOW, 511, 2);
        dueComing("the greatest", x, Check.FAR, 511, 5);
        dueComing("seed 0", x, 0, 511, 0);
        NineBooks y = at(Scene.NINES, "001;991", 9, 1);
        dueComing("the least seed, lot by lot", y, Check.FAR_BELOW, 437, 1);
        dueComing("the greatest at once", y, Check.FAR, 511, 1);
    }

    private static void burnsOneAndAll() {
        NineBooks x = at(Scene.NINES, "001;991", 9, 1);
        dueComing("one each time", x, 0, 435, 1);
        dueComing("one once", x, 2, 507, 1);
        x.set(1, 2);
        dueComing("two each time", x, 7, 392, 1);
        x.set(1, 8);
        dueComing("all but one", x, 2, 128, 1);
        dueComing("then the last, too, by 8 of 1", x, 1, NONE, NONE);
        x.set(1, 9);
        dueComing("all at once", x, 2, NONE, NONE);
        NineBooks few = at("9o.;9o.", "001;991", 9, 9);
        dueComing("all, for there are no more", few, 2, NONE, NONE);
        Check.due("nothing is burnt", x.count(4), 0);
        Check.due("all is left", x.left(), 511);
    }

    private static void lastOfferOfNine() {
        NineBooks x = at(Scene.NINES, "001;991", 9, 1);
        dueComing("the ninth offer is bought", x, 714, 256, 1);
        dueComing("the ninth offer is refused", x, 1321, NONE, NONE);
    }

    private static void badComing() {
        NineBooks x = at(Scene.NINES, Scene.SIX, 0, 3);
        for (int what : new int[] {-1, 2, Check.FAR_BELOW, Check.FAR}) {
            Check.due("coming " + what, x.coming(1, what), BAD);
            Check.due("none comes " + what, new NineBooks().coming(1, what), BAD);
        }
    }
}
