/** The boundary cases of promises 31 to 36, each sentence by tests of its own. */
public final class SheetEdgesTest {
    private static final int BAD = NineBooks.BAD;
    private static final int NULL = -11, INDEX = -12, CAST = -13, STORE = -14, SIZE = -15;
    private static final int BYTES = 0, SHORTS = 1, INTS = 2;
    private static final int LEAST = Integer.MIN_VALUE, FAR = Integer.MAX_VALUE;
    private static final int[] NO_SHEETS = {-1, 4, LEAST, FAR};
    private static final int[] NO_FORMS = {-1, 3, LEAST, FAR};
    private static final int[] FINDING_OF = {0, NULL, INDEX, CAST, STORE, SIZE};

    public static void main(String[] args) {
        leastAndMostItems();
        sizesThatAreNotSo();
        itemsAreNoneAtFirst();
        aNewRowForAnOldOne();
        badSheets();
        lostOnce();
        badLosing();
        putAtTheEnds();
        putBehindTheEnds();
        putTheLowestBits();
        putAsOfAnotherForm();
        badPutting();
        gotAtTheEnds();
        gotBehindTheEnds();
        badGetting();
        copiedAtTheEnds();
        copiedNone();
        copiedAllOfTheMost();
        copiedOntoItself();
        copiedWhatIsNotThere();
        copiedWithLostOnes();
        badCopying();
        writtenAtTheEnds();
        writtenOfEachForm();
        writtenOfNoneLeft();
        writtenUpToTheBestPrice();
        badWriting();
        Check.end();
    }

    /** The answer that is due; where it is a finding, count() 8 tells its number. */
    private static void due(NineBooks x, String call, int got, int want) {
        Check.due(call, got, want);
        for (int finding = 1; finding <= 5; finding++) {
            if (want == FINDING_OF[finding]) {
                Check.due(call + ", its finding", x.count(8), finding);
            }
        }
    }

    /** What get() does not tell: the least int, and of which finding it is. */
    private static void dueNone(NineBooks x, String call, int got, int finding) {
        Check.due(call, got, LEAST);
        Check.due(call + ", its finding", x.count(8), finding);
    }

    private static NineBooks withRow(int form, int n) {
        NineBooks x = new NineBooks();
        x.sheet(0, form, n);
        return x;
    }

    // ---- promise 31

    private static void leastAndMostItems() {
        for (int s = 0; s <= 3; s++) {
            for (int form = BYTES; form <= INTS; form++) {
                NineBooks x = new NineBooks();
                due(x, "no items", x.sheet(s, form, 0), 0);
                due(x, "it has none", x.lose(s), 0);
                due(x, "48 items", x.sheet(s, form, 48), 48);
                due(x, "the last is there", x.put(s, form, 47, 5), 1);
                due(x, "it has 48", x.lose(s), 48);
                due(x, "one item", x.sheet(s, form, 1), 1);
            }
        }
    }

    private static void sizesThatAreNotSo() {
        NineBooks x = withRow(BYTES, 2);
        due(x, "49", x.sheet(0, INTS, 49), BAD);
        due(x, "the most", x.sheet(0, INTS, FAR), BAD);
        due(x, "they are no findings", x.count(8), 0);
        due(x, "-1", x.sheet(0, INTS, -1), SIZE);
        due(x, "the least", x.sheet(0, INTS, LEAST), SIZE);
        due(x, "it is the row that it was", x.get(0, BYTES, 1), 0);
        due(x, "a lost one", x.sheet(3, INTS, -1), SIZE);
        due(x, "is lost still", x.lose(3), NULL);
    }

    private static void itemsAreNoneAtFirst() {
        for (int form = BYTES; form <= INTS; form++) {
            NineBooks x = withRow(form, 48);
            for (int i = 0; i < 48; i++) {
                due(x, "item " + i, x.get(0, form, i), 0);
            }
        }
    }

    private static void aNewRowForAnOldOne() {
        NineBooks x = new NineBooks();
        Check.fill(x, 0, 1, 2, 3);
        x.sheet(0, INTS, 4);
        Check.dueItems(x, "as long and longer", 0, INTS, 0, 0, 0, 0);
        Check.fill(x, 0, 1, 2, 3);
        x.lose(0);
        x.sheet(0, INTS, 3);
        Check.dueItems(x, "after it was lost", 0, INTS, 0, 0, 0);
        x.put(0, INTS, 0, 7);
        x.sheet(0, SHORTS, 1);
        Check.dueItems(x, "of another form", 0, SHORTS, 0);
    }

    private static void badSheets() {
        NineBooks x = new NineBooks();
        for (int s : NO_SHEETS) {
            due(x, "sheet " + s, x.sheet(s, BYTES, 1), BAD);
            due(x, "sheet " + s + " below 0", x.sheet(s, BYTES, -1), BAD);
        }
        for (int form : NO_FORMS) {
            due(x, "form " + form, x.sheet(0, form, 1), BAD);
            due(x, "form " + form + " below 0", x.sheet(0, form, -1), BAD);
        }
        due(x, "no finding", x.count(8), 0);
    }

    // ---- promise 32

    private static void lostOnce() {
        for (int n : new int[] {0, 1, 48}) {
            NineBooks x = withRow(SHORTS, n);
            due(x, "how many it had", x.lose(0), n);
            due(x, "it is lost", x.lose(0), NULL);
            dueNone(x, "no item", x.get(0, SHORTS, 0), 1);
        }
    }

    private static void badLosing() {
        NineBooks x = Scene.full();
        for (int s : NO_SHEETS) {
            due(x, "lose " + s, x.lose(s), BAD);
        }
        due(x, "no finding", x.count(8), 0);
        due(x, "they are there", x.lose(0), 3);
    }

    // ---- promise 33

    private static void putAtTheEnds() {
        for (int n : new int[] {1, 2, 48}) {
            NineBooks x = withRow(INTS, n);
            due(x, "the last", x.put(0, INTS, n - 1, 8), 1);
            due(x, "the first", x.put(0, INTS, 0, 9), 1);
            due(x, "is there", x.get(0, INTS, 0), 9);
            due(x, "the last is there", x.get(0, INTS, n - 1), n == 1 ? 9 : 8);
        }
    }

    private static void putBehindTheEnds() {
        for (int n : new int[] {0, 1, 2, 48}) {
            for (int i : new int[] {-1, n, LEAST, FAR}) {
                NineBooks x = withRow(INTS, n);
                due(x, "item " + i + " of " + n, x.put(0, INTS, i, 8), INDEX);
            }
        }
    }

    private static void putTheLowestBits() {
        int[] v = {127, 128, 255, 256, -128, -129, 32767, 32768, 65535, 65536, -32768, -32769,
            FAR, LEAST, -1, 0x1234ff80, 0x12348000};
        int[] bytes = {127, -128, -1, 0, -128, 127, -1, 0, -1, 0, 0, -1, -1, 0, -1, -128, 0};
        int[] shorts = {127, 128, 255, 256, -128, -129, 32767, -32768, -1, 0, -32768, 32767, -1, 0,
            -1, -128, -32768};
        for (int i = 0; i < v.length; i++) {
            NineBooks x = new NineBooks();
            for (int form = BYTES; form <= INTS; form++) {
                x.sheet(form, form, 1);
                due(x, "put " + v[i] + " of form " + form, x.put(form, form, 0, v[i]), 1);
            }
            due(x, v[i] + " as a byte", x.get(0, BYTES, 0), bytes[i]);
            due(x, v[i] + " as a short", x.get(1, SHORTS, 0), shorts[i]);
            due(x, v[i] + " as an int", x.get(2, INTS, 0), v[i]);
        }
    }

    private static void putAsOfAnotherForm() {
        for (int form = BYTES; form <= INTS; form++) {
            for (int other = BYTES; other <= INTS; other++) {
                NineBooks x = withRow(form, 1);
                due(x, form + " as of " + other, x.put(0, other, 0, 5), form == other ? 1 : CAST);
                due(x, "what is there", x.get(0, form, 0), form == other ? 5 : 0);
                NineBooks y = withRow(form, 0);
                int none = form == other ? INDEX : CAST;
                due(y, form + " as of " + other + ", no item", y.put(0, other, 0, 5), none);
            }
        }
    }

    private static void badPutting() {
        NineBooks x = withRow(INTS, 1);
        for (int s : NO_SHEETS) {
            due(x, "put on " + s, x.put(s, INTS, 0, 5), BAD);
        }
        for (int form : NO_FORMS) {
            due(x, "put as of " + form, x.put(0, form, 0, 5), BAD);
            due(x, "put on a lost one as of " + form, x.put(1, form, 0, 5), BAD);
        }
        due(x, "no finding", x.count(8), 0);
        due(x, "nothing is put", x.get(0, INTS, 0), 0);
        for (int s = 1; s <= 3; s++) {
            due(x, "put on a lost one", x.put(s, INTS, 0, 5), NULL);
            due(x, "put on no item of it", x.put(s, INTS, -1, 5), NULL);
        }
    }

    // ---- promise 34

    private static void gotAtTheEnds() {
        NineBooks x = withRow(INTS, 48);
        x.put(0, INTS, 0, -5);
        x.put(0, INTS, 47, LEAST);
        x.put(0, INTS, 46, FAR);
        due(x, "the first", x.get(0, INTS, 0), -5);
        due(x, "the greatest", x.get(0, INTS, 46), FAR);
        dueNone(x, "the last, which is the least int", x.get(0, INTS, 47), 0);
    }

    private static void gotBehindTheEnds() {
        for (int n : new int[] {0, 1, 48}) {
            for (int i : new int[] {-1, n, LEAST, FAR}) {
                NineBooks x = withRow(BYTES, n);
                dueNone(x, "item " + i + " of " + n, x.get(0, BYTES, i), 2);
                dueNone(x, "as of another form", x.get(0, SHORTS, i), 3);
                dueNone(x, "of a lost one", x.get(1, SHORTS, i), 1);
            }
        }
    }

    private static void badGetting() {
        NineBooks x = withRow(INTS, 1);
        for (int s : NO_SHEETS) {
            dueNone(x, "get of " + s, x.get(s, INTS, 0), 0);
        }
        for (int form : NO_FORMS) {
            dueNone(x, "get as of " + form, x.get(0, form, 0), 0);
            dueNone(x, "get of a lost one as of " + form, x.get(1, form, 0), 0);
        }
    }

    // ---- promise 35

    private static NineBooks twoRows() {
        NineBooks x = new NineBooks();
        Check.fill(x, 0, 1, 2, 3);
        Check.fill(x, 1, 7, 8);
        return x;
    }

    private static void copiedAtTheEnds() {
        NineBooks x = twoRows();
        due(x, "the last to the last", x.copy(0, 2, 1, 1, 1), 1);
        Check.dueItems(x, "the last", 1, INTS, 7, 3);
        due(x, "the first to the first", x.copy(0, 0, 1, 0, 1), 1);
        Check.dueItems(x, "the first", 1, INTS, 1, 3);
        due(x, "as many as there come", x.copy(0, 1, 1, 0, 2), 1);
        Check.dueItems(x, "both", 1, INTS, 2, 3);
        due(x, "all of the other", x.copy(1, 0, 0, 0, 2), 1);
        Check.dueItems(x, "the rest is as it was", 0, INTS, 2, 3, 3);
    }

    private static void copiedNone() {
        NineBooks x = twoRows();
        due(x, "none from the first", x.copy(0, 0, 1, 0, 0), 1);
        due(x, "none behind the last", x.copy(0, 3, 1, 2, 0), 1);
        due(x, "none, i above the size", x.copy(0, 4, 1, 2, 0), INDEX);
        due(x, "none, j above the size", x.copy(0, 3, 1, 3, 0), INDEX);
        due(x, "none, i below 0", x.copy(0, -1, 1, 0, 0), INDEX);
        due(x, "none, j below 0", x.copy(0, 0, 1, -1, 0), INDEX);
        Check.dueItems(x, "as it was", 1, INTS, 7, 8);
        x.sheet(2, INTS, 0);
        due(x, "none of none", x.copy(2, 0, 2, 0, 0), 1);
        due(x, "none of none, i above", x.copy(2, 1, 2, 0, 0), INDEX);
        due(x, "one of none", x.copy(2, 0, 0, 0, 1), INDEX);
        due(x, "one to none", x.copy(0, 0, 2, 0, 1), INDEX);
    }

    private static void copiedAllOfTheMost() {
        NineBooks x = new NineBooks();
        x.sheet(0, SHORTS, 48);
        x.sheet(3, SHORTS, 48);
        for (int i = 0; i < 48; i++) {
            x.put(0, SHORTS, i, 1000 + i);
        }
        due(x, "49 of 48", x.copy(0, 0, 3, 0, 49), INDEX);
        due(x, "all 48", x.copy(0, 0, 3, 0, 48), 1);
        for (int i = 0; i < 48; i++) {
            due(x, "item " + i, x.get(3, SHORTS, i), 1000 + i);
        }
    }

    private static void copiedOntoItself() {
        int[][] rows = {{0, 1, 4}, {1, 0, 4}, {0, 2, 3}, {2, 0, 3}, {0, 0, 5}, {4, 0, 1}};
        int[][] become = {{1, 1, 2, 3, 4}, {2, 3, 4, 5, 5}, {1, 2, 1, 2, 3}, {3, 4, 5, 4, 5},
            {1, 2, 3, 4, 5}, {5, 2, 3, 4, 5}};
        for (int row = 0; row < rows.length; row++) {
            NineBooks x = new NineBooks();
            Check.fill(x, 2, 1, 2, 3, 4, 5);
            due(x, "row " + row, x.copy(2, rows[row][0], 2, rows[row][1], rows[row][2]), 1);
            Check.dueItems(x, "as they were, row " + row, 2, INTS, become[row]);
        }
    }

    private static void copiedWhatIsNotThere() {
        int[][] rows = {{-1, 0, 1}, {0, -1, 1}, {0, 0, -1}, {2, 0, 2}, {0, 1, 2}, {0, 0, 3},
            {3, 0, 1}, {0, 2, 1}, {LEAST, 0, 1}, {FAR, 0, 1}, {0, LEAST, 1}, {0, FAR, 1},
            {0, 0, LEAST}, {0, 0, FAR}, {1, 1, FAR}, {FAR, FAR, FAR}, {LEAST, LEAST, LEAST},
            {FAR, 0, 0}, {0, FAR, 0}, {1, 1, -1}, {2, 2, LEAST}, {-1, -1, 2}};
        for (int[] row : rows) {
            NineBooks x = twoRows();
            String call = row[2] + " from " + row[0] + " to " + row[1];
            due(x, call, x.copy(0, row[0], 1, row[1], row[2]), INDEX);
            Check.dueItems(x, call, 0, INTS, 1, 2, 3);
            Check.dueItems(x, call, 1, INTS, 7, 8);
        }
    }

    private static void copiedWithLostOnes() {
        NineBooks x = twoRows();
        x.sheet(2, BYTES, 3);
        due(x, "from a lost one", x.copy(3, 0, 0, 0, 1), NULL);
        due(x, "unlike, from ints", x.copy(0, 0, 2, 0, 1), STORE);
        due(x, "to a lost one", x.copy(0, 0, 3, 0, 1), NULL);
        due(x, "unlike, from bytes", x.copy(2, 0, 0, 0, 1), STORE);
        due(x, "a lost one onto itself", x.copy(3, 0, 3, 0, 0), NULL);
        due(x, "unlike, no items", x.copy(2, 9, 0, 9, 9), STORE);
        due(x, "from a lost one, no items", x.copy(3, 9, 2, 9, 9), NULL);
        due(x, "to a lost one, no items", x.copy(2, -1, 3, -1, -1), NULL);
    }

    private static void badCopying() {
        NineBooks x = twoRows();
        for (int s : NO_SHEETS) {
            due(x, "from " + s, x.copy(s, 0, 0, 0, 1), BAD);
            due(x, "to " + s, x.copy(0, 0, s, 0, 1), BAD);
            due(x, "from a lost one to " + s, x.copy(3, 9, s, 9, 9), BAD);
            due(x, "from " + s + " to a lost one", x.copy(s, 9, 3, 9, 9), BAD);
        }
        due(x, "no finding", x.count(8), 0);
    }

    // ---- promise 36

    private static void writtenAtTheEnds() {
        NineBooks x = Check.with(Scene.NINES, "999;001");
        x.sheet(0, INTS, 0);
        due(x, "no items", x.write(0, 0), 0);
        x.sheet(0, INTS, 48);
        due(x, "48 items", x.write(0, 0), 48);
        for (int i = 0; i < 48; i++) {
            due(x, "at " + i, x.get(0, INTS, i), 2);
        }
        due(x, "48 items by the other", x.write(1, 0), 48);
        for (int i = 0; i < 48; i++) {
            due(x, "of one who has nothing, at " + i, x.get(0, INTS, i), i == 0 ? 2 : 0);
        }
    }

    private static void writtenOfEachForm() {
        for (int form = BYTES; form <= INTS; form++) {
            NineBooks x = Check.with("1o.", "991");
            x.sheet(0, form, 3);
            x.put(0, form, 2, 99);
            due(x, "three", x.write(0, 0), 3);
            Check.dueItems(x, "of form " + form, 0, form, 2, 2, 0);
            due(x, "no finding but by get()", x.count(8), 2);
        }
    }

    private static void writtenOfNoneLeft() {
        NineBooks x = Scene.allBurnt();
        Check.fill(x, 0, 9, 9);
        due(x, "two", x.write(2, 0), 2);
        Check.dueItems(x, "all burnt", 0, INTS, 0, 0);
        NineBooks y = Check.with("", "999");
        Check.fill(y, 0, 9, 9);
        due(y, "two of no books", y.write(0, 0), 2);
        Check.dueItems(y, "no books", 0, INTS, 0, 0);
    }

    private static void writtenUpToTheBestPrice() {
        NineBooks x = Check.with("3o.;5o.", "049;999;991");
        x.set(0, 77);
        x.burn(1);
        x.sheet(0, BYTES, 6);
        x.write(0, 0);
        Check.dueItems(x, "by what it has", 0, BYTES, 2, 2, 2, 2, 2, 0);
        x.write(2, 0);
        Check.dueItems(x, "by its gain", 0, BYTES, 2, 2, 2, 2, 0, 0);
        due(x, "the price is as it was", x.set(0, 0), 77);
    }

    private static void badWriting() {
        NineBooks x = Scene.full();
        for (int king : new int[] {-1, 6, LEAST, FAR}) {
            due(x, "by king " + king, x.write(king, 0), BAD);
            due(x, "by king " + king + " on a lost one", x.write(king, 3), BAD);
        }
        for (int s : NO_SHEETS) {
            due(x, "on " + s, x.write(0, s), BAD);
        }
        due(x, "no finding", x.count(8), 0);
        due(x, "on a lost one", x.write(5, 3), NULL);
        Check.dueItems(x, "nothing is written", 0, BYTES, 2, 0, 8);
        x.wipe(1);
        due(x, "by no kings", x.write(0, 0), BAD);
    }
}
