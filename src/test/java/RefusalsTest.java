/**
 * The paragraph on refusals: of those that fit, the first in the order that each act tells; each
 * of them changes nothing, and a finding nothing but count() 8.
 */
public final class RefusalsTest {
    private static final int BAD = NineBooks.BAD, NOT = NineBooks.NOT, FULL = NineBooks.FULL;
    private static final int NULL = -11, INDEX = -12, CAST = -13, STORE = -14, SIZE = -15;
    private static final int LEAST = Integer.MIN_VALUE, FAR = Integer.MAX_VALUE;
    /** What count() 8 is ahead of each refusal: no other call here leaves it so. */
    private static final int BEFORE = 5;

    private interface Call {
        long on(NineBooks x);
    }

    private interface Making {
        NineBooks made();
    }

    public static void main(String[] args) {
        badBeforeFull();
        fullOrNot();
        badBeforeNot();
        ofOneSheet();
        ofPutting();
        ofGetting();
        ofCopying();
        ofWriting();
        badOfWhatThereIs();
        Check.end();
    }

    /** What is made has had the finding SIZE, and has the told one after the refusal. */
    private static void due(String call, Making making, Call refused, long want, int finding) {
        NineBooks x = making.made();
        x.sheet(0, 0, -1);
        Check.due(call, refused.on(x), want);
        Check.due(call + ", its finding", x.count(8), finding);
        boolean same = Scene.told(x).equals(Scene.told(making.made()));
        Check.due(call + " left all as it was", same ? 1 : 0, 1);
    }

    private static void due(String call, Making making, Call refused, long want) {
        due(call, making, refused, want, BEFORE);
    }

    private static NineBooks fullRows() {
        NineBooks x = Check.with(Scene.NINE, Scene.SIX);
        for (int page = 0; page < 9; page++) {
            x.page(1);
        }
        for (int saying = 0; saying < 8; saying++) {
            x.said(0, 1, 1);
        }
        return x;
    }

    private static void badBeforeFull() {
        due("a wrong byte behind full books", RefusalsTest::fullRows, x -> x.type(0, 256), BAD);
        due("a wrong byte behind full kings", RefusalsTest::fullRows, x -> x.type(1, -1), BAD);
        due("no text, wrong byte", RefusalsTest::fullRows, x -> x.type(2, 256), BAD);
        due("a wrong page of too many", RefusalsTest::fullRows, x -> x.page(2), BAD);
        due("another one", RefusalsTest::fullRows, x -> x.page(-1), BAD);
        due("no such saying, too many", RefusalsTest::fullRows, x -> x.said(3, 1, 1), BAD);
        due("a wrong worth of too many", RefusalsTest::fullRows, x -> x.said(0, 10, 1), BAD);
        due("a wrong kind of too many", RefusalsTest::fullRows, x -> x.said(1, 3, 1), BAD);
        due("a wrong book of too many", RefusalsTest::fullRows, x -> x.said(2, 9, 1), BAD);
        due("neither so nor not, too many", RefusalsTest::fullRows, x -> x.said(2, 8, 2), BAD);
    }

    private static void fullOrNot() {
        due("a byte behind full books", RefusalsTest::fullRows, x -> x.type(0, ';'), FULL);
        due("a byte behind full kings", RefusalsTest::fullRows, x -> x.type(1, '0'), FULL);
        due("a page too many", RefusalsTest::fullRows, x -> x.page(0), FULL);
        due("a saying too many", RefusalsTest::fullRows, x -> x.said(2, -1, 0), FULL);
        due("undo of no books", NineBooks::new, x -> x.undo(0), NOT);
        due("undo of no kings", NineBooks::new, x -> x.undo(1), NOT);
        due("back of none", RefusalsTest::fullRows, NineBooks::back, NOT);
        due("burnt already", Scene::full, x -> x.burn(6), BAD);
        due("each is burnt", Scene::allBurnt, x -> x.burn(0), BAD);
        due("a tenth of nine burnt", Scene::allBurnt, x -> x.burn(9), BAD);
    }

    private static void badBeforeNot() {
        long bad = -9223372036854775806L;
        long not = -9223372036854775805L;
        due("undo of no text", NineBooks::new, x -> x.undo(2), BAD);
        due("trust of none left", Scene::allBurnt, x -> x.trust(0), not);
        due("below", Scene::allBurnt, x -> x.trust(1), not);
        due("no such part of it", Scene::allBurnt, x -> x.trust(2), bad);
        due("another one", Scene::allBurnt, x -> x.trust(-1), bad);
        due("no books, no such part", NineBooks::new, x -> x.trust(2), bad);
    }

    private static void ofOneSheet() {
        due("no such sheet, below 0", Scene::full, x -> x.sheet(4, 0, -1), BAD);
        due("no such form, below 0", Scene::full, x -> x.sheet(0, 3, -1), BAD);
        due("no form -1, below 0", Scene::full, x -> x.sheet(0, -1, LEAST), BAD);
        due("above 48", Scene::full, x -> x.sheet(0, 0, 49), BAD);
        due("below 0", Scene::full, x -> x.sheet(1, 0, -1), SIZE, 5);
        due("least size", Scene::full, x -> x.sheet(3, 2, LEAST), SIZE, 5);
        due("lose a lost one", Scene::full, x -> x.lose(3), NULL, 1);
        due("lose no sheet", Scene::full, x -> x.lose(4), BAD);
        due("read a lost one", Scene::full, x -> x.read(3), NULL, 1);
        due("read no sheet", Scene::full, x -> x.read(-1), BAD);
    }

    private static void ofPutting() {
        due("put: no sheet, no form, no item", Scene::full, x -> x.put(4, 3, 9, 1), BAD);
        due("put: lost, no form, no item", Scene::full, x -> x.put(3, 3, 9, 1), BAD);
        due("put: no form, no item", Scene::full, x -> x.put(0, -1, 9, 1), BAD);
        due("put: lost, no item", Scene::full, x -> x.put(3, 2, -1, 1), NULL, 1);
        due("put: another form, no item", Scene::full, x -> x.put(0, 1, 3, 1), CAST, 3);
        due("put: another form", Scene::full, x -> x.put(2, 0, 0, 1), CAST, 3);
        due("put: item -1", Scene::full, x -> x.put(0, 0, -1, 1), INDEX, 2);
        due("put: the item behind the last", Scene::full, x -> x.put(0, 0, 3, 1), INDEX, 2);
        due("put: the least item", Scene::full, x -> x.put(1, 1, LEAST, 1), INDEX, 2);
        due("put: the greatest item", Scene::full, x -> x.put(2, 2, FAR, 1), INDEX, 2);
    }

    private static void ofGetting() {
        due("get: no sheet, no form, no item", Scene::full, x -> x.get(4, 3, 9), LEAST);
        due("get: lost, no form, no item", Scene::full, x -> x.get(3, 3, 9), LEAST);
        due("get: no form, no item", Scene::full, x -> x.get(0, -1, 9), LEAST);
        due("get: lost, no item", Scene::full, x -> x.get(3, 2, -1), LEAST, 1);
        due("get: another form, no item", Scene::full, x -> x.get(0, 1, 3), LEAST, 3);
        due("get: another form", Scene::full, x -> x.get(2, 0, 0), LEAST, 3);
        due("get: item -1", Scene::full, x -> x.get(0, 0, -1), LEAST, 2);
        due("get: the item behind the last", Scene::full, x -> x.get(0, 0, 3), LEAST, 2);
        due("get: the least item", Scene::full, x -> x.get(1, 1, LEAST), LEAST, 2);
        due("get: the greatest item", Scene::full, x -> x.get(2, 2, FAR), LEAST, 2);
    }

    private static void ofCopying() {
        due("copy: from no sheet to a lost one", Scene::full, x -> x.copy(4, 9, 3, 9, 9), BAD);
        due("copy: from a lost one to no sheet", Scene::full, x -> x.copy(3, 9, -1, 9, 9), BAD);
        due("copy: a lost one onto itself", Scene::full, x -> x.copy(3, -1, 3, -1, -1), NULL, 1);
        due("copy: from a lost one, no items", Scene::full, x -> x.copy(3, 9, 0, 9, -1), NULL, 1);
        due("copy: to a lost one, no items", Scene::full, x -> x.copy(0, 9, 3, 9, -1), NULL, 1);
        due("copy: unlike, no items", Scene::full, x -> x.copy(0, -1, 1, 9, -1), STORE, 4);
        due("copy: unlike, none of them", Scene::full, x -> x.copy(2, 0, 1, 0, 0), STORE, 4);
        due("copy: i below 0", Scene::full, x -> x.copy(2, -1, 2, 0, 1), INDEX, 2);
        due("copy: j below 0", Scene::full, x -> x.copy(2, 0, 2, -1, 1), INDEX, 2);
        due("copy: n below 0", Scene::full, x -> x.copy(2, 0, 2, 0, -1), INDEX, 2);
        due("copy: not so many there", Scene::full, x -> x.copy(2, 1, 2, 0, 5), INDEX, 2);
        due("copy: not so many where they come", Scene::full, x -> x.copy(2, 0, 2, 1, 5), INDEX, 2);
        due("copy: none, i above the size", Scene::full, x -> x.copy(0, 4, 0, 0, 0), INDEX, 2);
        due("copy: none, j above the size", Scene::full, x -> x.copy(0, 0, 0, 4, 0), INDEX, 2);
    }

    private static void ofWriting() {
        due("write: no king, lost", Scene::full, x -> x.write(6, 3), BAD);
        due("write: king -1, lost", Scene::full, x -> x.write(-1, 3), BAD);
        due("write: a king, no sheet", Scene::full, x -> x.write(0, 4), BAD);
        due("write: a king, lost", Scene::full, x -> x.write(5, 3), NULL, 1);
        due("write: no kings at all, lost", NineBooks::new, x -> x.write(0, 0), BAD);
    }

    /** BAD is also that there is no such thing: a book, a king that there is not. */
    private static void badOfWhatThereIs() {
        Making two = () -> Check.with("1o.;2b0", "123;456");
        Making faulty = () -> Check.with("1o.;2b0;", "123;45");
        long bad = -9223372036854775806L;
        due("a third book of two", two, x -> x.book(2, 0), BAD);
        due("a book by a fault", faulty, x -> x.book(0, 0), BAD);
        for (Making made : new Making[] {two, faulty}) {
            int king = made == two ? 2 : 0;
            due("king", made, x -> x.king(king, 0), BAD);
            due("gain", made, x -> x.gain(king, 1), BAD);
            due("act", made, x -> x.act(king, 1), BAD);
            due("value", made, x -> x.value(king, 1, 0), bad);
            due("buys", made, x -> x.buys(king, 0), bad);
            due("take", made, x -> x.take(king, 1, 0), bad);
            due("price", made, x -> x.price(king), BAD);
            due("burns", made, x -> x.burns(king), BAD);
            due("share of it with another", made, x -> x.share(king, 1 - king / 2, 1, 0), BAD);
            due("share of another with it", made, x -> x.share(1 - king / 2, king, 1, 0), BAD);
            due("write", made, x -> x.write(king, 0), BAD);
        }
        due("one king with itself", two, x -> x.share(1, 1, 3, 0), BAD);
        due("the first with itself", two, x -> x.share(0, 0, 3, 1), BAD);
    }
}
