/**
 * Nine books that are offered for a price and burnt when they are refused, the kings to whom they
 * are offered, and sheets of numbers beside them. Sets of books are bits: book b is 1 << b.
 */
public final class NineBooks {
    public static final int NONE = -1, BAD = -2, NOT = -3, FULL = -4;

    private static final int NULL = 1, INDEX = 2, CAST = 3, STORE = 4, SIZE = 5;
    private static final int LEAVE = 0, BUY = 2;
    private static final int BLANK = 1, PAST = 2;
    private static final int LAST_BOOK = 8, LAST_SET = 511;
    private static final int LAST_PRICE = 99, LEAST_BURNS = 1, MOST_BURNS = 9;
    private static final int SIXTEENTHS = 16, MOST_PAGES = 9;
    private static final int LAST_SHEET = 3, LAST_FORM = 2, MOST_ITEMS = 48;
    private static final int LEAST_INT = -2147483648;
    private static final long LEAST_LONG = -9223372036854775808L;

    private final Books books = new Books();
    private final Kings kings = new Kings();
    private final Burnt burnt = new Burnt();
    private final Sayings sayings = new Sayings();
    private final Sheet[] sheets = new Sheet[LAST_SHEET + 1];
    private int askedPrice = 30;
    private int burnsEachTime = 3;
    private int doubt = 8;
    private int blankPages = 0;
    private int otherPages = 0;
    private int latestFinding = 0;

    public NineBooks() {
        for (int s = 0; s < sheets.length; s++) {
            sheets[s] = new Sheet();
        }
    }

    // ---- books, kings

    public int type(int text, int b) {
        Entries entries = textOf(text);
        if (entries == null || !within(b, 0, 255)) {
            return BAD;
        }
        return entries.append(b);
    }

    public int wipe(int text) {
        Entries entries = textOf(text);
        return entries == null ? BAD : entries.clear();
    }

    public int undo(int text) {
        Entries entries = textOf(text);
        return entries == null ? BAD : entries.dropLast();
    }

    public int fault(int text) {
        Entries entries = textOf(text);
        return entries == null ? BAD : entries.faultPlace();
    }

    public int book(int book, int what) {
        if (!within(book, 0, books.number() - 1)) {
            return BAD;
        }
        switch (what) {
            case 0: return books.worth(book);
            case 1: return books.kind(book);
            case 2: return books.leansOn(book);
            default: return BAD;
        }
    }

    public int king(int king, int what) {
        if (!isKing(king) || !within(what, 0, 1)) {
            return BAD;
        }
        return what == 0 ? kings.has(king) : kings.need(king);
    }

    public int set(int what, int v) {
        int before;
        if (what == 0 && within(v, 0, LAST_PRICE)) {
            before = askedPrice;
            askedPrice = v;
        } else if (what == 1 && within(v, LEAST_BURNS, MOST_BURNS)) {
            before = burnsEachTime;
            burnsEachTime = v;
        } else if (what == 2 && within(v, 0, SIXTEENTHS)) {
            before = doubt;
            doubt = v;
        } else {
            before = BAD;
        }
        return before;
    }

    public int burn(int book) {
        return burnt.append(book);
    }

    public int back() {
        return burnt.dropLast();
    }

    public int read(int s) {
        Sheet from = sheetOf(s);
        if (from == null) {
            return BAD;
        }
        if (from.isLost()) {
            return found(NULL);
        }
        int taken = 0;
        while (taken < from.size() && burnt.append(from.item(taken)) != BAD) {
            taken++;
        }
        return taken;
    }

    // ---- use

    public int left() {
        return books.every() & ~burnt.bits();
    }

    public int use(int some) {
        return isSet(some) ? books.useOf(some) : BAD;
    }

    public int gain(int king, int some) {
        return isKing(king) && isSet(some) ? gainOf(king, some) : BAD;
    }

    public int loss() {
        return books.useOf(books.every()) - books.useOf(left());
    }

    public int enough(int use) {
        if (!within(use, 0, 99)) {
            return BAD;
        }
        int gone = ~left();
        int best = NONE;
        for (int set = 0; set <= LAST_SET; set++) {
            boolean fewer = best == NONE || Integer.bitCount(set) < Integer.bitCount(best);
            if ((set & gone) == 0 && fewer && books.useOf(set) >= use) {
                best = set;
            }
        }
        return best;
    }

    public int dearest() {
        int left = left();
        int best = NONE;
        int leastUse = 0;
        for (int book = 0; book <= LAST_BOOK; book++) {
            if (holds(left, book)) {
                int useWithout = books.useOf(left & ~(1 << book));
                if (best == NONE || useWithout < leastUse) {
                    best = book;
                    leastUse = useWithout;
                }
            }
        }
        return best;
    }

    // ---- offers

    /*
     * No OFFER is better than one before it: PRICE stays, and USE never grows by burning (no WORTH
     * is below 0, and a BOOK can only lose the one on which it LEANS). So a KING that would BUY
     * later has no less by buying now; one that would lose now would lose later, too. To REFUSE is
     * never more than both to BUY and to LEAVE, and VALUE and BUYS need no look at later OFFERS.
     */

    public int act(int king, int some) {
        return isKing(king) && isSet(some) ? actAt(king, some, askedPrice) : BAD;
    }

    public long value(int king, int some, int what) {
        if (!isKing(king) || !isSet(some) || !within(what, 0, 1)) {
            return refused(BAD);
        }
        boolean sold = actAt(king, some, askedPrice) == BUY;
        return whole(sold ? gainOf(king, some) - askedPrice : 0, what);
    }

    public long buys(int king, int what) {
        if (!isKing(king) || !within(what, 0, 1)) {
            return refused(BAD);
        }
        return whole(actAt(king, left(), askedPrice) == BUY ? 1 : 0, what);
    }

    public long take(int king, int price, int what) {
        if (!isKing(king) || !within(price, 0, LAST_PRICE) || !within(what, 0, 1)) {
            return refused(BAD);
        }
        return whole(actAt(king, left(), price) == BUY ? price : 0, what);
    }

    public int price(int king) {
        // It buys at once or never, so the most that it pays for LEFT is the most that she takes.
        return isKing(king) ? mostPaid(king, left()) : BAD;
    }

    public int burns(int king) {
        // It buys at once or never, so TAKE is the same by all BURNS: the least of like ones.
        return isKing(king) ? LEAST_BURNS : BAD;
    }

    public int share(int a, int b, int some, int what) {
        if (!isKing(a) || !isKing(b) || a == b || !isSet(some) || !within(what, 0, 1)) {
            return BAD;
        }
        int least = Math.max(0, askedPrice - mostPaid(b, some));
        int most = Math.min(askedPrice, mostPaid(a, some));
        if (least > most) {
            return NONE;
        }
        return what == 0 ? least : most;
    }

    // ---- pages, the fourth, kings that come

    public int page(int blank) {
        if (!within(blank, 0, 1)) {
            return BAD;
        }
        if (blankPages + otherPages >= MOST_PAGES) {
            return FULL;
        }
        if (blank == 1) {
            blankPages++;
        } else {
            otherPages++;
        }
        return blankPages + otherPages;
    }

    public long trust(int what) {
        if (!within(what, 0, 1)) {
            return refused(BAD);
        }
        int left = left();
        int all = Integer.bitCount(left);
        int blank = books.blanksOf(left);
        // Both are told in parts of 16 all^pages, which cancels; one not blank shows her not false.
        long likelyTrue = power(blank, blankPages) * power(all - blank, otherPages);
        long asTrue = (SIXTEENTHS - doubt) * likelyTrue;
        long asFalse = otherPages > 0 ? 0 : doubt * power(all, blankPages);
        if (all == 0 || asTrue + asFalse == 0) {
            return refused(NOT);
        }
        return inLowestTerms(asTrue, asTrue + asFalse, what);
    }

    public int said(int what, int v, int is) {
        boolean well;
        switch (what) {
            case 0: well = within(v, 0, 9); break;
            case 1: well = within(v, 0, PAST); break;
            case 2: well = within(v, NONE, LAST_BOOK); break;
            default: well = false;
        }
        return well && within(is, 0, 1) ? sayings.append(what, v, is) : BAD;
    }

    public int forget(int what) {
        if (!within(what, 0, 1)) {
            return BAD;
        }
        if (what == 1) {
            return sayings.clear();
        }
        int pages = blankPages + otherPages;
        blankPages = 0;
        otherPages = 0;
        return pages;
    }

    public int fourth() {
        int may = 0;
        for (int book = 0; book < books.number(); book++) {
            if (holds(burnt.bits(), book) && sayings.allow(books, book)) {
                may |= 1 << book;
            }
        }
        return may;
    }

    public int coming(int seed, int what) {
        if (!within(what, 0, 1)) {
            return BAD;
        }
        Lots lots = new Lots(seed);
        int offered = left();
        // Each OFFER that is refused burns one book at least.
        for (int offer = 0; offer <= LAST_BOOK && offered != 0 && kings.number() > 0; offer++) {
            int comer = lots.draw(kings.number());
            if (mostPaid(comer, offered) >= askedPrice) {
                return what == 0 ? offered : comer;
            }
            offered = burnByLots(offered, lots);
        }
        return NONE;
    }

    // ---- sheets

    public int sheet(int s, int form, int n) {
        Sheet row = sheetOf(s);
        if (row == null || !within(form, 0, LAST_FORM) || n > MOST_ITEMS) {
            return BAD;
        }
        if (n < 0) {
            return found(SIZE);
        }
        row.renew(form, n);
        return n;
    }

    public int lose(int s) {
        Sheet row = sheetOf(s);
        if (row == null) {
            return BAD;
        }
        return row.isLost() ? found(NULL) : row.drop();
    }

    public int put(int s, int form, int i, int v) {
        int refusal = itemRefusal(s, form, i);
        Sheet row = sheetOf(s);
        if (refusal != 0 || row == null) {
            return refusal;
        }
        row.change(i, v);
        return 1;
    }

    public int get(int s, int form, int i) {
        int refusal = itemRefusal(s, form, i);
        Sheet row = sheetOf(s);
        return refusal != 0 || row == null ? LEAST_INT : row.item(i);
    }

    public int copy(int s, int i, int t, int j, int n) {
        Sheet from = sheetOf(s);
        Sheet to = sheetOf(t);
        if (from == null || to == null) {
            return BAD;
        }
        if (from.isLost() || to.isLost()) {
            return found(NULL);
        }
        if (from.form() != to.form()) {
            return found(STORE);
        }
        if (!from.hasItems(i, n) || !to.hasItems(j, n)) {
            return found(INDEX);
        }
        to.fill(j, from, i, n);
        return 1;
    }

    public int write(int king, int s) {
        Sheet row = sheetOf(s);
        if (!isKing(king) || row == null) {
            return BAD;
        }
        if (row.isLost()) {
            return found(NULL);
        }
        int left = left();
        for (int price = 0; price < row.size(); price++) {
            row.change(price, actAt(king, left, price));
        }
        return row.size();
    }

    public int count(int what) {
        switch (what) {
            case 0: return books.number();
            case 1: return kings.number();
            case 2: return books.length();
            case 3: return kings.length();
            case 4: return burnt.size();
            case 5: return blankPages + otherPages;
            case 6: return sayings.size();
            case 7: return books.blanksOf(left());
            case 8: return latestFinding;
            default: return BAD;
        }
    }

    public long digest() {
        long h = 17;
        for (int what = 0; what <= 7; what++) {
            h = with(h, count(what));
        }
        h = with(with(h, fault(0)), fault(1));
        for (int book = 0; book < books.number(); book++) {
            for (int what = 0; what <= 2; what++) {
                h = with(h, book(book, what));
            }
        }
        for (int king = 0; king < kings.number(); king++) {
            h = with(with(h, king(king, 0)), king(king, 1));
            h = with(with(h, gain(king, LAST_SET)), act(king, left()));
            h = with(with(h, value(king, left(), 0)), value(king, left(), 1));
            h = with(with(h, buys(king, 0)), buys(king, 1));
            h = with(with(h, take(king, 20, 0)), take(king, 20, 1));
            h = with(with(h, price(king)), burns(king));
            h = with(with(h, share(0, king, LAST_SET, 0)), share(0, king, LAST_SET, 1));
        }
        h = with(with(h, left()), use(left()));
        h = with(with(with(h, loss()), enough(9)), dearest());
        h = with(with(h, trust(0)), trust(1));
        h = with(h, fourth());
        return with(with(h, coming(7, 0)), coming(7, 1));
    }

    private static long with(long h, long next) {
        return 31 * h + next;
    }

    // ---- what several of them need

    private static boolean within(int v, int least, int most) {
        return least <= v && v <= most;
    }

    private static boolean isSet(int some) {
        return within(some, 0, LAST_SET);
    }

    private static boolean holds(int set, int book) {
        return within(book, 0, LAST_BOOK) && (set >> book & 1) == 1;
    }

    private boolean isKing(int king) {
        return within(king, 0, kings.number() - 1);
    }

    private Entries textOf(int text) {
        switch (text) {
            case 0: return books;
            case 1: return kings;
            default: return null;
        }
    }

    private Sheet sheetOf(int s) {
        return within(s, 0, sheets.length - 1) ? sheets[s] : null;
    }

    private int gainOf(int king, int some) {
        return kings.need(king) * books.useOf(some);
    }

    /** The most that a king can pay for a set and not lose by it. */
    private int mostPaid(int king, int some) {
        return Math.min(kings.has(king), gainOf(king, some));
    }

    private int actAt(int king, int some, int price) {
        boolean offered = (some & books.every()) != 0;
        return offered && mostPaid(king, some) >= price ? BUY : LEAVE;
    }

    private int burnByLots(int offered, Lots lots) {
        int set = offered;
        for (int times = 0; times < burnsEachTime && set != 0; times++) {
            set &= ~(1 << bookAt(set, lots.draw(Integer.bitCount(set))));
        }
        return set;
    }

    /** The book of a set before which there are so many in it. */
    private static int bookAt(int set, int before) {
        int rest = set;
        for (int passed = 0; passed < before; passed++) {
            rest &= rest - 1;
        }
        return Integer.numberOfTrailingZeros(rest);
    }

    private static long power(int base, int exponent) {
        long product = 1;
        for (int times = 0; times < exponent; times++) {
            product *= base;
        }
        return product;
    }

    private static long refused(int refusal) {
        return LEAST_LONG - refusal;
    }

    /** A whole number as a fraction: above it is itself, below it is 1. */
    private static long whole(long number, int what) {
        return what == 0 ? number : 1;
    }

    private static long inLowestTerms(long above, long below, int what) {
        long common = commonDivisor(above, below);
        long told = what == 0 ? above : below;
        return common == 0 ? told : told / common;
    }

    private static long commonDivisor(long one, long other) {
        long a = one;
        long b = other;
        // Two longs take fewer than a hundred steps.
        for (int step = 0; step < 100 && b != 0; step++) {
            long rest = a % b;
            a = b;
            b = rest;
        }
        return a;
    }

    private int found(int finding) {
        latestFinding = finding;
        return -10 - finding;
    }

    /** Why item i, treated as of a form, cannot be had; 0 if it can. */
    private int itemRefusal(int s, int form, int i) {
        Sheet row = sheetOf(s);
        if (row == null || !within(form, 0, LAST_FORM)) {
            return BAD;
        }
        if (row.isLost()) {
            return found(NULL);
        }
        if (row.form() != form) {
            return found(CAST);
        }
        return row.hasItem(i) ? 0 : found(INDEX);
    }

    /** A text of entries of three bytes each, with ; between them. */
    private abstract static class Entries {
        private static final int ENTRY = 3, STEP = 4;
        private final int[] bytes;
        private int length = 0;
        private int faultPlace = NONE;
        private int number = 0;

        Entries(int[] room) {
            bytes = room;
        }

        /** Whether an entry may have this byte in this column (0 to 2). */
        abstract boolean fits(int b, int column);

        /** An entry of a text without a fault has these bytes. */
        abstract void keep(int entry, int first, int second, int third);

        int append(int b) {
            if (length >= bytes.length) {
                return FULL;
            }
            bytes[length] = b;
            length++;
            reread();
            return length;
        }

        int clear() {
            int had = length;
            length = 0;
            reread();
            return had;
        }

        int dropLast() {
            if (length <= 0) {
                return NOT;
            }
            length--;
            reread();
            return length;
        }

        int length() {
            return length;
        }

        int faultPlace() {
            return faultPlace;
        }

        /** How many entries there are: none, if the text has a fault. */
        int number() {
            return number;
        }

        /** All entries that there are, as bits. */
        int every() {
            return (1 << number) - 1;
        }

        static boolean isFigure(int b, char last) {
            return within(b, '0', last);
        }

        private void reread() {
            faultPlace = firstFault();
            number = faultPlace == NONE ? (length + 1) / STEP : 0;
            for (int entry = 0; entry < number; entry++) {
                int place = STEP * entry;
                if (place + 2 < bytes.length) {
                    keep(entry, bytes[place], bytes[place + 1], bytes[place + 2]);
                }
            }
        }

        // No text has room for an entry too many, so every fault is one of a byte or of the end.
        private int firstFault() {
            for (int place = 0; place < length && place < bytes.length; place++) {
                int column = place % STEP;
                boolean well = column == ENTRY ? bytes[place] == ';' : fits(bytes[place], column);
                if (!well) {
                    return place;
                }
            }
            return length == 0 || length % STEP == ENTRY ? NONE : length;
        }
    }

    /** Of each book a figure, what it is worth, its kind, and the book on which it leans. */
    private static final class Books extends Entries {
        private final int[] worths = new int[LAST_BOOK + 1];
        private final int[] kinds = new int[LAST_BOOK + 1];
        private final int[] props = new int[LAST_BOOK + 1];
        private final int[] usesAlone = new int[LAST_BOOK + 1];

        Books() {
            super(new int[35]);
        }

        boolean fits(int b, int column) {
            switch (column) {
                case 0: return isFigure(b, '9');
                case 1: return b == 'o' || b == 'b' || b == 'p';
                default: return b == '.' || isFigure(b, '8');
            }
        }

        void keep(int entry, int first, int second, int third) {
            if (within(entry, 0, LAST_BOOK)) {
                worths[entry] = first - '0';
                kinds[entry] = second == 'b' ? BLANK : second == 'p' ? PAST : 0;
                props[entry] = third == '.' ? NONE : third - '0';
                usesAlone[entry] = useAlone(worths[entry], kinds[entry]);
            }
        }

        private static int useAlone(int worth, int kind) {
            switch (kind) {
                case BLANK: return 0;
                case PAST: return worth / 2;
                default: return worth;
            }
        }

        int worth(int book) {
            return within(book, 0, LAST_BOOK) ? worths[book] : 0;
        }

        int kind(int book) {
            return within(book, 0, LAST_BOOK) ? kinds[book] : 0;
        }

        int leansOn(int book) {
            return within(book, 0, LAST_BOOK) ? props[book] : NONE;
        }

        int useOf(int some) {
            int set = some & every();
            int sum = 0;
            for (int book = 0; book <= LAST_BOOK; book++) {
                boolean stands = props[book] == NONE || (set >> props[book] & 1) == 1;
                if ((set >> book & 1) == 1 && stands) {
                    sum += usesAlone[book];
                }
            }
            return sum;
        }

        int blanksOf(int some) {
            int set = some & every();
            int blanks = 0;
            for (int book = 0; book <= LAST_BOOK; book++) {
                if (holds(set, book) && kinds[book] == BLANK) {
                    blanks++;
                }
            }
            return blanks;
        }
    }

    /** Of each king two figures, what it has, and a figure, its need. */
    private static final class Kings extends Entries {
        private static final int LAST_KING = 5;
        private final int[] purses = new int[LAST_KING + 1];
        private final int[] needs = new int[LAST_KING + 1];

        Kings() {
            super(new int[23]);
        }

        boolean fits(int b, int column) {
            return isFigure(b, '9');
        }

        void keep(int entry, int first, int second, int third) {
            if (within(entry, 0, LAST_KING)) {
                purses[entry] = 10 * (first - '0') + second - '0';
                needs[entry] = third - '0';
            }
        }

        int has(int king) {
            return within(king, 0, LAST_KING) ? purses[king] : 0;
        }

        int need(int king) {
            return within(king, 0, LAST_KING) ? needs[king] : 0;
        }
    }

    /** The books that were burnt, in their order. */
    private static final class Burnt {
        private final int[] order = new int[LAST_BOOK + 1];
        private int size = 0;
        private int bits = 0;

        int append(int book) {
            if (!within(book, 0, LAST_BOOK) || holds(bits, book) || size >= order.length) {
                return BAD;
            }
            order[size] = book;
            size++;
            bits |= 1 << book;
            return size;
        }

        int dropLast() {
            if (!within(size, 1, order.length)) {
                return NOT;
            }
            size--;
            bits &= ~(1 << order[size]);
            return size;
        }

        int size() {
            return size;
        }

        int bits() {
            return bits;
        }
    }

    /** What was said of the fourth. */
    private static final class Sayings {
        private static final int MOST = 8;
        private final int[] what = new int[MOST];
        private final int[] v = new int[MOST];
        private final int[] is = new int[MOST];
        private int size = 0;

        int append(int newWhat, int newV, int newIs) {
            if (size >= MOST) {
                return FULL;
            }
            what[size] = newWhat;
            v[size] = newV;
            is[size] = newIs;
            size++;
            return size;
        }

        int clear() {
            int had = size;
            size = 0;
            return had;
        }

        int size() {
            return size;
        }

        /** Whether all that was said may be of this book. */
        boolean allow(Books books, int book) {
            for (int saying = 0; saying < size && saying < MOST; saying++) {
                boolean so = isSo(books, book, what[saying], v[saying]);
                if (so != (is[saying] == 1)) {
                    return false;
                }
            }
            return true;
        }

        private static boolean isSo(Books books, int book, int what, int v) {
            switch (what) {
                case 0: return books.worth(book) >= v;
                case 1: return books.kind(book) == v;
                default: return books.leansOn(book) == v;
            }
        }
    }

    /** Lots that are drawn by a seed. */
    private static final class Lots {
        private int seed;

        Lots(int first) {
            seed = first;
        }

        /** A number from 0 on and below m. */
        int draw(int m) {
            seed = 1103515245 * seed + 12345;
            return m > 0 ? (seed >>> 16) % m : 0;
        }
    }

    /** A row of items of a form, or one that is lost. */
    private static final class Sheet {
        private static final int LOST = -1;
        private final int[] items = new int[MOST_ITEMS];
        private int form = 0;
        private int size = LOST;

        void renew(int newForm, int n) {
            form = newForm;
            size = n;
            for (int i = 0; i < items.length; i++) {
                items[i] = 0;
            }
        }

        int drop() {
            int had = size;
            size = LOST;
            return had;
        }

        boolean isLost() {
            return size == LOST;
        }

        int form() {
            return form;
        }

        int size() {
            return size;
        }

        boolean hasItem(int i) {
            return within(i, 0, size - 1) && i < items.length;
        }

        /** Whether there are n items from i on (of n 0, too: i no more than the size). */
        boolean hasItems(int i, int n) {
            return size <= items.length && within(i, 0, size) && within(n, 0, size - i);
        }

        int item(int i) {
            return hasItem(i) ? items[i] : 0;
        }

        void change(int i, int v) {
            if (hasItem(i)) {
                items[i] = narrowed(v);
            }
        }

        /** n items of a sheet of the same form, from i on, come here from j on. */
        void fill(int j, Sheet from, int i, int n) {
            if (from.hasItems(i, n) && hasItems(j, n)) {
                System.arraycopy(from.items, i, items, j, n);
            }
        }

        private int narrowed(int v) {
            switch (form) {
                case 0: return (byte) v;
                case 1: return (short) v;
                default: return v;
            }
        }
    }
}
