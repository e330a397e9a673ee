/** Promises 13 to 17: use, gain, loss, what is enough, and what is dearest. */
public final class UseTest {
    private static final int BAD = NineBooks.BAD, NONE = NineBooks.NONE;

    public static void main(String[] args) {
        use();
        gain();
        loss();
        enough();
        dearest();
        Check.end();
    }

    private static void use() {
        // 0: 5; 1: 8, leans on 0; 2: blank; 3: 9 of the past; 4: 4, leans on the blank one;
        // 5: 7, leans on itself; 6: 6, leans on one that there is not; 7: 7 of the past, on 3.
        NineBooks x = Check.with("5o.;8o0;3b.;9p.;4o2;7o5;6o8;7p3", "");
        int[] sets = {0, 1, 2, 3, 4, 8, 16, 20, 32, 64, 64 | 256, 128, 136, 255, 511, 256};
        int[] uses = {0, 5, 0, 13, 0, 4, 0, 4, 7, 0, 0, 0, 7, 31, 31, 0};
        for (int i = 0; i < sets.length; i++) {
            Check.due("use of " + sets[i], x.use(sets[i]), uses[i]);
        }
        Check.due("use -1", x.use(-1), BAD);
        Check.due("use 512", x.use(512), BAD);
        Check.due("far use", x.use(Check.FAR), BAD);
        x.burn(0);
        Check.due("burnt ones count in a told set", x.use(3), 13);
        Check.due("no books", new NineBooks().use(511), 0);
        Check.due("two that lean on each other", Check.with("3o1;4o0", "").use(3), 7);
        Check.due("one of the two", Check.with("3o1;4o0", "").use(1), 0);
        Check.due("all nine", Check.with("9o.;9o.;9o.;9o.;9o.;9o.;9o.;9o.;9o.", "").use(511), 81);
        Check.due("half of 1", Check.with("1p.", "").use(1), 0);
        Check.due("each half is cut", Check.with("5p.;5p.", "").use(3), 4);
        Check.due("blank and worth", Check.with("9b.", "").use(1), 0);
    }

    private static void gain() {
        NineBooks x = Check.with("5o.;8o0", "010;023;999");
        Check.due("need of 0", x.gain(0, 3), 0);
        Check.due("need of 3", x.gain(1, 3), 39);
        Check.due("need of 3 by a part", x.gain(1, 1), 15);
        Check.due("need of 9", x.gain(2, 511), 117);
        Check.due("gain of none", x.gain(2, 0), 0);
        Check.due("gain -1", x.gain(-1, 0), BAD);
        Check.due("gain of king 3", x.gain(3, 0), BAD);
        Check.due("gain by -1", x.gain(0, -1), BAD);
        Check.due("gain by 512", x.gain(0, 512), BAD);
        Check.due("no kings", new NineBooks().gain(0, 0), BAD);
    }

    private static void loss() {
        NineBooks x = Check.with("5o.;8o0;6p.", "");
        Check.due("no loss", x.loss(), 0);
        x.burn(8);
        Check.due("by one that there is not", x.loss(), 0);
        x.burn(0);
        Check.due("with what leans on it", x.loss(), 13);
        x.burn(1);
        Check.due("what leaned is lost once", x.loss(), 13);
        x.burn(2);
        Check.due("all lost", x.loss(), 16);
        x.back();
        x.back();
        x.back();
        Check.due("undone", x.loss(), 0);
    }

    private static void enough() {
        NineBooks x = Check.with("5o.;8o0;3b.;9p.;4o2;7o4", "");
        int[] uses = {0, 1, 5, 6, 9, 10, 13, 14, 17, 18, 24, 28, 29, 99};
        // 6 is told by two: 0 and 1 (bits 3, USE 13), 0 and 3 (9, 9), 4 and 5 (48, 7).
        int[] sets = {0, 1, 1, 3, 3, 3, 3, 11, 11, 51, 55, 63, NONE, NONE};
        for (int i = 0; i < sets.length; i++) {
            Check.due("enough of " + uses[i], x.enough(uses[i]), sets[i]);
        }
        Check.due("enough -1", x.enough(-1), BAD);
        Check.due("enough 100", x.enough(100), BAD);
        x.burn(1);
        Check.due("without a burnt one", x.enough(6), 9);
        x.burn(0);
        x.burn(3);
        Check.due("one that has no use by itself", x.enough(5), 48);
        Check.due("a blank one that bears another", x.enough(8), 52);
        Check.due("not so much", x.enough(12), NONE);
        Check.due("none is enough for 0", x.enough(0), 0);
        NineBooks y = Check.with("2o.;2o.;4o.;4o.", "");
        Check.due("fewer before less bits", y.enough(4), 4);
        Check.due("less bits of like ones", y.enough(6), 5);
        NineBooks nine = Check.with("9o.;9o.;9o.;9o.;9o.;9o.;9o.;9o.;9o.", "");
        Check.due("all nine are enough", nine.enough(81), 511);
        Check.due("all nine are not", nine.enough(82), NONE);
        Check.due("eight of nine", nine.enough(72), 255);
        Check.due("no books, 0", new NineBooks().enough(0), 0);
        Check.due("no books, 1", new NineBooks().enough(1), NONE);
    }

    private static void dearest() {
        NineBooks x = Check.with("5o.;8o0;3b.;9p.;4o2;7o4", "");
        Check.due("with what leans on it", x.dearest(), 0);
        x.burn(0);
        Check.due("a blank one with what leans", x.dearest(), 4);
        x.burn(4);
        Check.due("of the past", x.dearest(), 3);
        x.burn(3);
        Check.due("all alike: the least", x.dearest(), 1);
        x.burn(1);
        x.burn(2);
        Check.due("one is left", x.dearest(), 5);
        x.burn(5);
        Check.due("none is left", x.dearest(), NONE);
        Check.due("no books", new NineBooks().dearest(), NONE);
        Check.due("the least of like ones", Check.with("1o.;4o.;4o.", "").dearest(), 1);
        Check.due("the ninth", Check.with("1o.;1o.;1o.;1o.;1o.;1o.;1o.;1o.;2o.", "").dearest(), 8);
        Check.due("without use", Check.with("9b.;0o.", "").dearest(), 0);
    }
}
