/** Promises 31 to 36: sheets, their items and their findings. */
public final class SheetsTest {
    private static final int BAD = NineBooks.BAD;
    private static final int NULL = -11, INDEX = -12, CAST = -13, STORE = -14, SIZE = -15;
    private static final int BYTES = 0, SHORTS = 1, INTS = 2;
    private static final int LEAST = Integer.MIN_VALUE;

    public static void main(String[] args) {
        sheets();
        losing();
        putting();
        narrowing();
        getting();
        copying();
        copyingOntoItself();
        copyingThatIsRefused();
        writing();
        Check.end();
    }

    /** The answer is due, and with it what the latest finding is. */
    private static void due(NineBooks x, String call, long got, long want, int finding) {
        Check.due(call, got, want);
        Check.due(call + ", its finding", x.count(8), finding);
    }

    private static void sheets() {
        NineBooks x = new NineBooks();
        due(x, "sheet -1", x.sheet(-1, BYTES, 1), BAD, 0);
        due(x, "sheet 4", x.sheet(4, BYTES, 1), BAD, 0);
        due(x, "form -1", x.sheet(0, -1, 1), BAD, 0);
        due(x, "form 3", x.sheet(0, 3, 1), BAD, 0);
        due(x, "49 items", x.sheet(0, BYTES, 49), BAD, 0);
        due(x, "BAD before SIZE", x.sheet(4, BYTES, -1), BAD, 0);
        due(x, "BAD form before SIZE", x.sheet(0, 3, -1), BAD, 0);
        due(x, "-1 items", x.sheet(0, BYTES, -1), SIZE, 5);
        due(x, "least items", x.sheet(0, BYTES, LEAST), SIZE, 5);
        due(x, "it is lost still", x.lose(0), NULL, 1);
        for (int s = 0; s < 4; s++) {
            due(x, "48 items", x.sheet(s, s % 3, 48), 48, 1);
            due(x, "the first", x.get(s, s % 3, 0), 0, 1);
            due(x, "the last", x.get(s, s % 3, 47), 0, 1);
            x.put(s, s % 3, 0, 7);
            x.put(s, s % 3, 1, 7);
            x.put(s, s % 3, 47, 7);
        }
        due(x, "refused: as it was", x.sheet(1, INTS, -1), SIZE, 5);
        due(x, "its item", x.get(1, SHORTS, 1), 7, 5);
        due(x, "new row", x.sheet(1, INTS, 2), 2, 5);
        Check.dueItems(x, "its items are 0", 1, INTS, 0, 0);
        due(x, "others stay", x.get(2, INTS, 1), 7, 2);
        due(x, "a longer row", x.sheet(1, INTS, 48), 48, 2);
        due(x, "is new, too", x.get(1, INTS, 1), 0, 2);
        due(x, "up to its end", x.get(1, INTS, 47), 0, 2);
        due(x, "no items", x.sheet(1, BYTES, 0), 0, 2);
        due(x, "it has none", x.lose(1), 0, 2);
    }

    private static void losing() {
        NineBooks x = new NineBooks();
        due(x, "lose -1", x.lose(-1), BAD, 0);
        due(x, "lose 4", x.lose(4), BAD, 0);
        due(x, "lose a lost one", x.lose(3), NULL, 1);
        x.sheet(3, SHORTS, 5);
        due(x, "lose", x.lose(3), 5, 1);
        due(x, "lose it again", x.lose(3), NULL, 1);
        due(x, "no item", x.get(3, SHORTS, 0), LEAST, 1);
    }

    private static void putting() {
        NineBooks x = new NineBooks();
        due(x, "put on -1", x.put(-1, BYTES, 0, 1), BAD, 0);
        due(x, "put on 4", x.put(4, BYTES, 0, 1), BAD, 0);
        due(x, "put of form -1", x.put(0, -1, 0, 1), BAD, 0);
        due(x, "put of form 3", x.put(0, 3, 0, 1), BAD, 0);
        due(x, "put on a lost one", x.put(0, BYTES, 9, 1), NULL, 1);
        x.sheet(0, SHORTS, 3);
        due(x, "put as of bytes", x.put(0, BYTES, 9, 1), CAST, 3);
        due(x, "put as of ints", x.put(0, INTS, 0, 1), CAST, 3);
        due(x, "put at -1", x.put(0, SHORTS, -1, 1), INDEX, 2);
        due(x, "put at 3", x.put(0, SHORTS, 3, 1), INDEX, 2);
        due(x, "put at the most", x.put(0, SHORTS, Check.FAR, 1), INDEX, 2);
        due(x, "put at the least", x.put(0, SHORTS, LEAST, 1), INDEX, 2);
        due(x, "BAD keeps the finding", x.put(0, 3, 0, 1), BAD, 2);
        due(x, "put at 0", x.put(0, SHORTS, 0, 11), 1, 2);
        due(x, "put at 2", x.put(0, SHORTS, 2, 33), 1, 2);
        Check.dueItems(x, "what was put", 0, SHORTS, 11, 0, 33);
    }

    private static void narrowing() {
        int[] told = {127, 128, -128, -129, 255, 256, 32767, 32768, -32768, -32769, 65535, 98765,
            Check.FAR, LEAST, -1};
        int[] bytes = {127, -128, -128, 127, -1, 0, -1, 0, 0, -1, -1, -51, -1, 0, -1};
        int[] shorts = {127, 128, -128, -129, 255, 256, 32767, -32768, -32768, 32767, -1, -32307,
            -1, 0, -1};
        NineBooks x = new NineBooks();
        for (int form = BYTES; form <= INTS; form++) {
            x.sheet(form, form, told.length);
            for (int i = 0; i < told.length; i++) {
                Check.due("put " + told[i], x.put(form, form, i, told[i]), 1);
            }
        }
        Check.dueItems(x, "bytes", 0, BYTES, bytes);
        Check.dueItems(x, "shorts", 1, SHORTS, shorts);
        Check.dueItems(x, "ints", 2, INTS, told);
    }

    private static void getting() {
        NineBooks x = new NineBooks();
        due(x, "get of -1", x.get(-1, BYTES, 0), LEAST, 0);
        due(x, "get of 4", x.get(4, BYTES, 0), LEAST, 0);
        due(x, "get of form -1", x.get(0, -1, 0), LEAST, 0);
        due(x, "get of form 3", x.get(0, 3, 0), LEAST, 0);
        due(x, "get of a lost one", x.get(0, BYTES, 0), LEAST, 1);
        x.sheet(0, INTS, 2);
        due(x, "get as of bytes", x.get(0, BYTES, 5), LEAST, 3);
        due(x, "get as of shorts", x.get(0, SHORTS, 0), LEAST, 3);
        due(x, "get at -1", x.get(0, INTS, -1), LEAST, 2);
        due(x, "get at 2", x.get(0, INTS, 2), LEAST, 2);
        x.put(0, INTS, 1, -5);
        due(x, "get", x.get(0, INTS, 1), -5, 2);
        due(x, "BAD keeps the finding", x.get(4, INTS, 1), LEAST, 2);
    }

    private static void copying() {
        NineBooks x = new NineBooks();
        Check.fill(x, 0, 1, 2, 3, 4);
        Check.fill(x, 1, 9, 8, 7);
        due(x, "copy", x.copy(0, 1, 1, 0, 2), 1, 0);
        Check.dueItems(x, "copied", 1, INTS, 2, 3, 7);
        Check.dueItems(x, "left as it was", 0, INTS, 1, 2, 3, 4);
        due(x, "copy to the end", x.copy(0, 3, 1, 2, 1), 1, 2);
        Check.dueItems(x, "copied to the end", 1, INTS, 2, 3, 4);
        due(x, "copy none at the ends", x.copy(0, 4, 1, 3, 0), 1, 2);
        due(x, "copy all", x.copy(1, 0, 0, 1, 3), 1, 2);
        Check.dueItems(x, "all copied", 0, INTS, 1, 2, 3, 4);
        x.sheet(2, BYTES, 2);
        x.sheet(3, BYTES, 2);
        x.put(2, BYTES, 0, 200);
        due(x, "copy bytes", x.copy(2, 0, 3, 1, 1), 1, 2);
        Check.dueItems(x, "bytes copied", 3, BYTES, 0, -56);
    }

    private static void copyingOntoItself() {
        NineBooks x = new NineBooks();
        Check.fill(x, 0, 1, 2, 3, 4, 5);
        due(x, "copy up", x.copy(0, 0, 0, 1, 4), 1, 0);
        Check.dueItems(x, "as they were", 0, INTS, 1, 1, 2, 3, 4);
        due(x, "copy down", x.copy(0, 1, 0, 0, 4), 1, 2);
        Check.dueItems(x, "as they were, down", 0, INTS, 1, 2, 3, 4, 4);
    }

    private static void copyingThatIsRefused() {
        NineBooks x = new NineBooks();
        due(x, "copy of -1", x.copy(-1, 0, 0, 0, 0), BAD, 0);
        due(x, "copy of 4", x.copy(4, 0, 0, 0, 0), BAD, 0);
        due(x, "copy to -1", x.copy(0, 0, -1, 0, 0), BAD, 0);
        due(x, "copy to 4", x.copy(0, 0, 4, 0, 0), BAD, 0);
        Check.fill(x, 0, 1, 2, 3);
        due(x, "copy to a lost one", x.copy(0, 9, 1, 0, 0), NULL, 1);
        x.sheet(2, SHORTS, 4);
        due(x, "copy of unlike forms", x.copy(0, 9, 2, 0, 0), STORE, 4);
        due(x, "copy of a lost one", x.copy(1, 0, 0, 0, 0), NULL, 1);
        Check.fill(x, 1, 7, 8);
        int[][] wrong = {{-1, 0, 1}, {0, -1, 1}, {0, 0, -1}, {0, 0, 3}, {1, 0, 3}, {0, 1, 2},
            {4, 0, 0}, {0, 3, 0}, {3, 0, 1}, {0, 2, 1}, {0, 0, Check.FAR}, {1, 1, Check.FAR},
            {Check.FAR, 0, 1}, {0, Check.FAR, 1}, {LEAST, 0, 0}, {0, LEAST, 0}, {0, 0, LEAST},
            {3, 3, 0}, {1, 0, -1}};
        for (int[] row : wrong) {
            x.get(9, 0, 0);
            x.lose(3);
            String call = "copy from " + row[0] + " to " + row[1] + ", " + row[2] + " items";
            due(x, call, x.copy(0, row[0], 1, row[1], row[2]), INDEX, 2);
        }
        due(x, "BAD keeps the finding", x.copy(4, 0, 1, 0, 1), BAD, 2);
        Check.dueItems(x, "as it was", 1, INTS, 7, 8);
    }

    private static void writing() {
        NineBooks x = Check.with("1o.;2o.", "991;029");
        due(x, "write of -1", x.write(-1, 0), BAD, 0);
        due(x, "write of 2", x.write(2, 0), BAD, 0);
        due(x, "write on -1", x.write(0, -1), BAD, 0);
        due(x, "write on 4", x.write(0, 4), BAD, 0);
        due(x, "BAD before NULL", x.write(2, 0), BAD, 0);
        due(x, "write on a lost one", x.write(0, 0), NULL, 1);
        Check.fill(x, 0, 9, 9, 9, 9, 9, 9);
        due(x, "write", x.write(0, 0), 6, 1);
        Check.dueItems(x, "by gain", 0, INTS, 2, 2, 2, 2, 0, 0);
        due(x, "write the other", x.write(1, 0), 6, 2);
        Check.dueItems(x, "by what it has", 0, INTS, 2, 2, 2, 0, 0, 0);
        x.burn(1);
        x.write(0, 0);
        Check.dueItems(x, "by what is left", 0, INTS, 2, 2, 0, 0, 0, 0);
        x.burn(0);
        x.write(0, 0);
        Check.dueItems(x, "none is left", 0, INTS, 0, 0, 0, 0, 0, 0);
        x.back();
        x.back();
        x.sheet(1, BYTES, 3);
        due(x, "write bytes", x.write(1, 1), 3, 2);
        Check.dueItems(x, "bytes", 1, BYTES, 2, 2, 2);
        x.sheet(2, SHORTS, 0);
        due(x, "write on no items", x.write(1, 2), 0, 2);
        Check.due("the price is as it was", x.set(0, 1), 30);
        NineBooks y = Check.with("9o.;9o.", "999");
        y.sheet(0, SHORTS, 48);
        due(y, "write 48", y.write(0, 0), 48, 0);
        due(y, "at 47", y.get(0, SHORTS, 47), 2, 0);
    }
}
