/** Promises 25 to 30: pages, the fourth, and kings that come. */
public final class PagesTest {
    private static final int BAD = NineBooks.BAD, FULL = NineBooks.FULL, NONE = NineBooks.NONE;
    private static final long NOT = Check.refused(NineBooks.NOT);

    public static void main(String[] args) {
        pages();
        trust();
        trustThatCannotBe();
        said();
        forgetting();
        fourth();
        coming();
        burntByLots();
        Check.end();
    }

    private static void pages() {
        NineBooks x = new NineBooks();
        Check.due("page -1", x.page(-1), BAD);
        Check.due("page 2", x.page(2), BAD);
        for (int page = 1; page <= 9; page++) {
            Check.due("page " + page, x.page(page % 2), page);
        }
        Check.due("a tenth", x.page(0), FULL);
        Check.due("a blank tenth", x.page(1), FULL);
        Check.due("BAD before FULL", x.page(2), BAD);
        Check.due("nine pages", x.count(5), 9);
    }

    private static void dueTrust(NineBooks x, String when, long above, long below) {
        Check.due(when + ", above", x.trust(0), above);
        Check.due(when + ", below", x.trust(1), below);
    }

    private static void trust() {
        NineBooks x = Check.with("5o.;8b.;3b.;9p.", "");
        dueTrust(x, "at first", 1, 2);
        x.set(2, 4);
        dueTrust(x, "less doubt", 3, 4);
        x.page(1);
        dueTrust(x, "a blank page, 2 of 4", 3, 5);
        x.page(1);
        dueTrust(x, "two of them", 3, 7);
        x.burn(0);
        dueTrust(x, "2 of 3 are blank", 4, 7);
        x.burn(3);
        dueTrust(x, "all left are blank", 3, 4);
        x.page(0);
        dueTrust(x, "a page not blank, of blank books", NOT, NOT);
        x.back();
        dueTrust(x, "a page not blank", 1, 1);
        x.set(2, 0);
        dueTrust(x, "no doubt", 1, 1);
        x.forget(0);
        dueTrust(x, "no doubt and no pages", 1, 1);
        x.set(2, 16);
        dueTrust(x, "all doubt", 0, 1);
        x.page(1);
        dueTrust(x, "all doubt, a blank page", 0, 1);
        Check.due("what -1", x.trust(-1), Check.refused(BAD));
        Check.due("what 2", x.trust(2), Check.refused(BAD));
        NineBooks nine = Check.with("1b.;1b.;1b.;1b.;1b.;1b.;1b.;1b.;1o.", "");
        for (int page = 0; page < 9; page++) {
            nine.page(1);
        }
        dueTrust(nine, "nine pages of nine books", 134217728L, 134217728L + 387420489L);
    }

    private static void trustThatCannotBe() {
        NineBooks x = new NineBooks();
        dueTrust(x, "no books", NOT, NOT);
        Check.due("BAD before NOT", x.trust(2), Check.refused(BAD));
        Check.type(x, 0, "1o.");
        dueTrust(x, "one book", 1, 2);
        x.page(1);
        dueTrust(x, "a blank page of none", 0, 1);
        x.set(2, 0);
        dueTrust(x, "a blank page of none, no doubt", NOT, NOT);
        x.set(2, 5);
        x.page(0);
        dueTrust(x, "both pages of one book", NOT, NOT);
        x.forget(0);
        x.page(0);
        dueTrust(x, "a page that is not blank", 1, 1);
        x.set(2, 16);
        dueTrust(x, "all doubt, not blank", NOT, NOT);
        x.forget(0);
        x.burn(0);
        dueTrust(x, "none is left", NOT, NOT);
    }

    private static void said() {
        int[] least = {0, 0, -1};
        int[] most = {9, 2, 8};
        NineBooks x = new NineBooks();
        for (int what = 0; what < 3; what++) {
            Check.due("said below " + what, x.said(what, least[what] - 1, 1), BAD);
            Check.due("said above " + what, x.said(what, most[what] + 1, 1), BAD);
            Check.due("said is -1", x.said(what, 1, -1), BAD);
            Check.due("said is 2", x.said(what, 1, 2), BAD);
            Check.due("said least " + what, x.said(what, least[what], 0), 2 * what + 1);
            Check.due("said most " + what, x.said(what, most[what], 1), 2 * what + 2);
        }
        Check.due("said -1", x.said(-1, 1, 1), BAD);
        Check.due("said 3", x.said(3, 1, 1), BAD);
        Check.due("the seventh", x.said(0, 1, 1), 7);
        Check.due("the eighth", x.said(0, 1, 1), 8);
        Check.due("the ninth", x.said(0, 1, 1), FULL);
        Check.due("BAD before FULL", x.said(0, 10, 1), BAD);
        Check.due("eight are said", x.count(6), 8);
    }

    private static void forgetting() {
        NineBooks x = Check.with("5o.", "");
        x.page(1);
        x.page(0);
        x.page(1);
        x.said(0, 9, 1);
        Check.due("forget -1", x.forget(-1), BAD);
        Check.due("forget 2", x.forget(2), BAD);
        Check.due("forget pages", x.forget(0), 3);
        Check.due("no pages", x.count(5), 0);
        Check.due("said stays", x.count(6), 1);
        Check.due("trust is as at first", x.trust(1), 2);
        Check.due("forget none", x.forget(0), 0);
        x.page(1);
        x.burn(0);
        Check.due("said of it", x.fourth(), 0);
        Check.due("forget said", x.forget(1), 1);
        Check.due("it may be", x.fourth(), 1);
        Check.due("pages stay", x.count(5), 1);
        Check.due("none said", x.forget(1), 0);
    }

    private static int fourthBy(NineBooks x, int what, int v, int is) {
        x.forget(1);
        x.said(what, v, is);
        return x.fourth();
    }

    private static void fourth() {
        NineBooks x = Check.with("5o.;8b0;3p.;9p7;4o4;0o.", "");
        Check.due("none is burnt", x.fourth(), 0);
        Check.fill(x, 0, 0, 1, 2, 3, 4, 8);
        x.read(0);
        Check.due("all burnt that there are", x.fourth(), 31);
        Check.due("worth 5", fourthBy(x, 0, 5, 1), 11);
        Check.due("not worth 5", fourthBy(x, 0, 5, 0), 20);
        Check.due("worth 0", fourthBy(x, 0, 0, 1), 31);
        Check.due("worth 9", fourthBy(x, 0, 9, 1), 8);
        Check.due("any kind", fourthBy(x, 1, 0, 1), 17);
        Check.due("blank", fourthBy(x, 1, 1, 1), 2);
        Check.due("not of the past", fourthBy(x, 1, 2, 0), 19);
        Check.due("leaned on none", fourthBy(x, 2, -1, 1), 5);
        Check.due("leaned on some", fourthBy(x, 2, -1, 0), 26);
        Check.due("leaned on one that there is not", fourthBy(x, 2, 7, 1), 8);
        Check.due("leaned on itself", fourthBy(x, 2, 4, 1), 16);
        Check.due("not on 0", fourthBy(x, 2, 0, 0), 29);
        x.said(0, 4, 1);
        Check.due("and worth 4", x.fourth(), 25);
        x.said(1, 2, 0);
        Check.due("and not of the past", x.fourth(), 17);
        x.said(0, 4, 0);
        Check.due("and not worth 4", x.fourth(), 0);
        x.forget(1);
        x.back();
        x.back();
        Check.due("as many as are burnt", x.fourth(), 15);
        NineBooks y = Check.with("8b8;3p.", "");
        y.burn(0);
        Check.due("the first was blank", fourthBy(y, 1, 1, 1), 1);
        Check.due("it leaned", fourthBy(y, 2, 8, 1), 1);
    }

    private static void dueComing(NineBooks x, int seed, int set, int king) {
        Check.due("coming " + seed + ", set", x.coming(seed, 0), set);
        Check.due("coming " + seed + ", king", x.coming(seed, 1), king);
    }

    private static void coming() {
        NineBooks x = Check.with("5o.;8o0", "401;139");
        Check.due("what -1", x.coming(1, -1), BAD);
        Check.due("what 2", x.coming(1, 2), BAD);
        x.set(0, 13);
        // the first lot by seed 1 is 16838, by seed 2 it is 33676, by seed 5 it is 18655
        dueComing(x, 1, 3, 0);
        dueComing(x, 2, 3, 0);
        dueComing(x, 5, 3, 1);
        x.set(0, 14);
        dueComing(x, 1, NONE, NONE);
        x.wipe(1);
        dueComing(x, 1, NONE, NONE);
        Check.type(x, 1, "990");
        x.set(0, 0);
        dueComing(x, Check.FAR_BELOW, 3, 0);
        dueComing(x, Check.FAR, 3, 0);
        x.burn(0);
        dueComing(x, 1, 2, 0);
        x.burn(1);
        dueComing(x, 1, NONE, NONE);
        Check.due("none by no books", new NineBooks().coming(1, 0), NONE);
    }

    private static void burntByLots() {
        // King 0 has nothing: when it comes it refuses, and books are burnt by lots.
        NineBooks x = Check.with("9o.;9o.;9o.;9o.;9o.;9o.;9o.;9o.;9o.", "001;991;501");
        x.set(0, 27);
        int[][] sales = {{1, 0, 435, 1}, {1, 10, 189, 2}, {1, -7, 511, 1}, {2, 7, 392, 1},
            {2, 16, 236, 1}, {2, -2, 511, 2}, {3, 0, 322, 1}, {3, 16, 42, 2}, {3, 29, NONE, NONE},
            {3, Check.FAR, 511, 2}, {4, Check.FAR_BELOW, 511, 2}, {4, 25, 422, 1}, {4, -3, 227, 1},
            {4, 0, NONE, NONE}, {9, 7, NONE, NONE}, {9, 9, NONE, NONE}};
        for (int[] sale : sales) {
            x.set(1, sale[0]);
            dueComing(x, sale[1], sale[2], sale[3]);
        }
        Check.due("nothing is burnt by it", x.left(), 511);
        NineBooks y = Check.with("9o.;9o.;9o.;9o.;9o.;9o.;9o.;9o.;9o.", "001;991");
        y.set(0, 9);
        y.set(1, 1);
        dueComing(y, 714, 256, 1);
        y.set(1, 9);
        Check.fill(y, 0, 1, 2, 3, 4, 5, 6, 7, 8);
        y.read(0);
        dueComing(y, 2, NONE, NONE);
        dueComing(y, 3, 1, 1);
        dueComing(y, 6, NONE, NONE);
    }
}
