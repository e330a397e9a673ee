import java.math.BigInteger;
import java.util.ArrayList;
import java.util.List;
import java.util.TreeSet;
import java.util.regex.Matcher;
import java.util.regex.Pattern;

/**
 * The document once more, as slowly as its words go and by other ways than the class: texts by
 * patterns, offers from the last one back over all that may be burnt, chances by big fractions.
 */
final class SlowBooks {
    private static final int NONE = -1, BAD = -2, NOT = -3, FULL = -4;
    private static final long LEAST = Long.MIN_VALUE;
    private static final Pattern BOOKS = Pattern.compile("[0-9][obp][0-8.](;[0-9][obp][0-8.]){0,8}");
    private static final Pattern KINGS = Pattern.compile("[0-9]{3}(;[0-9]{3}){0,5}");

    private final String[] texts = {"", ""};
    private final int[] settings = {30, 3, 8};
    private final List<Integer> burnt = new ArrayList<>();
    private final List<Integer> pages = new ArrayList<>();
    private final List<int[]> sayings = new ArrayList<>();
    private final Object[] rows = new Object[4];
    private int finding = 0;
    /** Kept until the text is another one: what was last told of it. */
    private final String[] splitText = {"", ""};
    private final String[][] splitAs = {{}, {}};
    private String usedText = null;
    private int[] usesOfText = null;

    // ---- books, kings

    int type(int text, int b) {
        if (text < 0 || text > 1 || b < 0 || b > 255) {
            return BAD;
        }
        if (texts[text].length() == (text == 0 ? 35 : 23)) {
            return FULL;
        }
        texts[text] += (char) b;
        return texts[text].length();
    }

    int wipe(int text) {
        if (text < 0 || text > 1) {
            return BAD;
        }
        int had = texts[text].length();
        texts[text] = "";
        return had;
    }

    int undo(int text) {
        if (text < 0 || text > 1) {
            return BAD;
        }
        if (texts[text].isEmpty()) {
            return NOT;
        }
        texts[text] = texts[text].substring(0, texts[text].length() - 1);
        return texts[text].length();
    }

    int fault(int text) {
        if (text < 0 || text > 1) {
            return BAD;
        }
        Pattern pattern = text == 0 ? BOOKS : KINGS;
        String all = texts[text];
        for (int end = 1; end <= all.length(); end++) {
            Matcher matcher = pattern.matcher(all.substring(0, end));
            if (!matcher.matches() && !matcher.hitEnd()) {
                return end - 1;
            }
        }
        return all.isEmpty() || pattern.matcher(all).matches() ? NONE : all.length();
    }

    private String[] entries(int text) {
        if (!splitText[text].equals(texts[text])) {
            boolean none = texts[text].isEmpty() || fault(text) != NONE;
            splitAs[text] = none ? new String[0] : texts[text].split(";");
            splitText[text] = texts[text];
        }
        return splitAs[text];
    }

    int book(int book, int what) {
        String[] books = entries(0);
        if (book < 0 || book >= books.length || what < 0 || what > 2) {
            return BAD;
        }
        char told = books[book].charAt(what);
        if (what == 1) {
            return "obp".indexOf(told);
        }
        return told == '.' ? NONE : Character.digit(told, 10);
    }

    int king(int king, int what) {
        String[] kings = entries(1);
        if (king < 0 || king >= kings.length || what < 0 || what > 1) {
            return BAD;
        }
        return Integer.parseInt(what == 0 ? kings[king].substring(0, 2) : kings[king].substring(2));
    }

    int set(int what, int v) {
        int[] least = {0, 1, 0};
        int[] most = {99, 9, 16};
        if (what < 0 || what > 2 || v < least[what] || v > most[what]) {
            return BAD;
        }
        int was = settings[what];
        settings[what] = v;
        return was;
    }

    int burn(int book) {
        if (book < 0 || book > 8 || burnt.contains(book)) {
            return BAD;
        }
        burnt.add(book);
        return burnt.size();
    }

    int back() {
        if (burnt.isEmpty()) {
            return NOT;
        }
        burnt.remove(burnt.size() - 1);
        return burnt.size();
    }

    int read(int s) {
        if (s < 0 || s > 3) {
            return BAD;
        }
        if (rows[s] == null) {
            return found(1);
        }
        int taken = 0;
        for (int i = 0; i < sizeOf(rows[s]); i++) {
            if (burn(itemOf(rows[s], i)) < 0) {
                break;
            }
            taken++;
        }
        return taken;
    }

    // ---- use

    private TreeSet<Integer> those(int bits) {
        TreeSet<Integer> set = new TreeSet<>();
        for (int book = 0; book < entries(0).length; book++) {
            if ((bits / (1 << book)) % 2 == 1) {
                set.add(book);
            }
        }
        return set;
    }

    private static int bits(Iterable<Integer> set) {
        int bits = 0;
        for (int book : set) {
            bits += 1 << book;
        }
        return bits;
    }

    int left() {
        TreeSet<Integer> set = those(511);
        set.removeAll(burnt);
        return bits(set);
    }

    int use(int some) {
        if (some < 0 || some > 511) {
            return BAD;
        }
        TreeSet<Integer> set = those(some);
        int sum = 0;
        for (int book : set) {
            boolean leaning = book(book, 2) != NONE;
            if (book(book, 1) != 1 && (!leaning || set.contains(book(book, 2)))) {
                sum += book(book, 1) == 2 ? book(book, 0) / 2 : book(book, 0);
            }
        }
        return sum;
    }

    int gain(int king, int some) {
        return king < 0 || king >= entries(1).length || some < 0 || some > 511
            ? BAD : king(king, 1) * use(some);
    }

    int loss() {
        return use(511) - use(left());
    }

    int enough(int use) {
        if (use < 0 || use > 99) {
            return BAD;
        }
        for (int books = 0; books <= 9; books++) {
            for (int set = 0; set <= 511; set++) {
                boolean ofLeft = (set | left()) == left();
                if (ofLeft && Integer.bitCount(set) == books && use(set) >= use) {
                    return set;
                }
            }
        }
        return NONE;
    }

    int dearest() {
        int best = NONE;
        for (int book : those(left())) {
            if (best == NONE || use(left() - (1 << book)) < use(left() - (1 << best))) {
                best = book;
            }
        }
        return best;
    }

    // ---- offers

    /** What a king has on the mean, and whether it buys in the end, of each set that it may meet. */
    private final class Game {
        private final int king;
        private final int price;
        private final int burns;
        /** Of each set, in parts of whole(its size). */
        private final long[] values = new long[512];
        private final long[] chances = new long[512];
        private final int[] acts = new int[512];
        private final boolean[] known = new boolean[512];
        private final int[] gains;
        private long valueOfNext;
        private long chanceOfNext;

        Game(int king, int price, int burns, int[] uses) {
            this.king = king(king, 0);
            this.price = price;
            this.burns = burns;
            this.gains = uses.clone();
            for (int set = 0; set < 512; set++) {
                gains[set] *= king(king, 1);
            }
        }

        /** Into how many parts all that is told of a set of so many books goes. */
        long whole(int books) {
            if (books <= burns) {
                return 1;
            }
            long ways = 1;
            for (int i = 0; i < burns; i++) {
                ways = ways * (books - i) / (i + 1);
            }
            return ways * whole(books - burns);
        }

        void solve(int set) {
            if (known[set] || set == 0) {
                return;
            }
            int books = Integer.bitCount(set);
            solveWithout(set, set, Math.min(burns, books));
            valueOfNext = 0;
            chanceOfNext = 0;
            addWithout(set, set, Math.min(burns, books));
            long buying = (gains[set] - price) * whole(books);
            if (king >= price && buying >= valueOfNext && buying >= 0) {
                acts[set] = 2;
                values[set] = buying;
                chances[set] = whole(books);
            } else if (valueOfNext > 0) {
                acts[set] = 1;
                values[set] = valueOfNext;
                chances[set] = chanceOfNext;
            }
            known[set] = true;
        }

        /** Solves all sets that come when so many more of these books are burnt. */
        private void solveWithout(int set, int these, int more) {
            if (more == 0) {
                solve(set);
                return;
            }
            for (int rest = these; rest != 0; rest &= rest - 1) {
                solveWithout(set & ~Integer.lowestOneBit(rest), rest & rest - 1, more - 1);
            }
        }

        private void addWithout(int set, int these, int more) {
            if (more == 0) {
                valueOfNext += values[set];
                chanceOfNext += chances[set];
                return;
            }
            for (int rest = these; rest != 0; rest &= rest - 1) {
                addWithout(set & ~Integer.lowestOneBit(rest), rest & rest - 1, more - 1);
            }
        }
    }

    private int[] uses() {
        if (!texts[0].equals(usedText)) {
            usedText = texts[0];
            usesOfText = new int[512];
            for (int set = 0; set < 512; set++) {
                usesOfText[set] = use(set);
            }
        }
        return usesOfText;
    }

    private Game played(int king, int price, int burns, int some, int[] uses) {
        Game game = new Game(king, price, burns, uses);
        game.solve(bits(those(some)));
        return game;
    }

    private static long part(BigInteger above, BigInteger below, int what) {
        BigInteger common = above.gcd(below);
        return (what == 0 ? above : below).divide(common).longValueExact();
    }

    private static long part(long above, long below, int what) {
        return part(BigInteger.valueOf(above), BigInteger.valueOf(below), what);
    }

    private boolean noKing(int king) {
        return king < 0 || king >= entries(1).length;
    }

    int act(int king, int some) {
        if (noKing(king) || some < 0 || some > 511) {
            return BAD;
        }
        return played(king, settings[0], settings[1], some, uses()).acts[bits(those(some))];
    }

    long value(int king, int some, int what) {
        if (noKing(king) || some < 0 || some > 511 || what < 0 || what > 1) {
            return LEAST + 2;
        }
        int set = bits(those(some));
        Game game = played(king, settings[0], settings[1], set, uses());
        return part(game.values[set], game.whole(Integer.bitCount(set)), what);
    }

    long buys(int king, int what) {
        if (noKing(king) || what < 0 || what > 1) {
            return LEAST + 2;
        }
        Game game = played(king, settings[0], settings[1], left(), uses());
        return part(game.chances[left()], game.whole(Integer.bitCount(left())), what);
    }

    long take(int king, int price, int what) {
        if (noKing(king) || price < 0 || price > 99 || what < 0 || what > 1) {
            return LEAST + 2;
        }
        Game game = played(king, price, settings[1], left(), uses());
        return part(price * game.chances[left()], game.whole(Integer.bitCount(left())), what);
    }

    /** Which of two games at prices takes more, the first by more than as much. */
    private boolean more(Game one, Game other) {
        int left = left();
        int books = Integer.bitCount(left);
        return one.price * one.chances[left] * other.whole(books)
            > other.price * other.chances[left] * one.whole(books);
    }

    int price(int king) {
        if (noKing(king)) {
            return BAD;
        }
        int[] uses = uses();
        Game best = played(king, 0, settings[1], left(), uses);
        for (int price = 1; price <= 99; price++) {
            Game next = played(king, price, settings[1], left(), uses);
            best = more(next, best) ? next : best;
        }
        return best.price;
    }

    int burns(int king) {
        if (noKing(king)) {
            return BAD;
        }
        int[] uses = uses();
        Game best = played(king, settings[0], 1, left(), uses);
        for (int burns = 2; burns <= 9; burns++) {
            Game next = played(king, settings[0], burns, left(), uses);
            best = more(next, best) ? next : best;
        }
        return best.burns;
    }

    int share(int a, int b, int some, int what) {
        if (noKing(a) || noKing(b) || a == b || some < 0 || some > 511 || what < 0 || what > 1) {
            return BAD;
        }
        int told = NONE;
        for (int ofA = 0; ofA <= settings[0]; ofA++) {
            int ofB = settings[0] - ofA;
            boolean well = ofA <= gain(a, some) && ofA <= king(a, 0)
                && ofB <= gain(b, some) && ofB <= king(b, 0);
            if (well && (told == NONE || what == 1)) {
                told = ofA;
            }
        }
        return told;
    }

    // ---- pages, the fourth, kings that come

    int page(int blank) {
        if (blank < 0 || blank > 1) {
            return BAD;
        }
        if (pages.size() == 9) {
            return FULL;
        }
        pages.add(blank);
        return pages.size();
    }

    long trust(int what) {
        if (what < 0 || what > 1) {
            return LEAST + 2;
        }
        int all = those(left()).size();
        if (all == 0) {
            return LEAST + 3;
        }
        // In parts of 16 all^pages.
        BigInteger ifTrue = BigInteger.valueOf(16 - settings[2]);
        BigInteger ifFalse = BigInteger.valueOf(settings[2]);
        for (int blank : pages) {
            ifTrue = ifTrue.multiply(BigInteger.valueOf(blank == 1 ? count(7) : all - count(7)));
            ifFalse = ifFalse.multiply(BigInteger.valueOf(blank == 1 ? all : 0));
        }
        BigInteger both = ifTrue.add(ifFalse);
        return both.signum() == 0 ? LEAST + 3 : part(ifTrue, both, what);
    }

    int said(int what, int v, int is) {
        int[] least = {0, 0, -1};
        int[] most = {9, 2, 8};
        if (what < 0 || what > 2 || v < least[what] || v > most[what] || is < 0 || is > 1) {
            return BAD;
        }
        if (sayings.size() == 8) {
            return FULL;
        }
        sayings.add(new int[] {what, v, is});
        return sayings.size();
    }

    int forget(int what) {
        if (what < 0 || what > 1) {
            return BAD;
        }
        List<?> told = what == 0 ? pages : sayings;
        int had = told.size();
        told.clear();
        return had;
    }

    int fourth() {
        TreeSet<Integer> may = those(511);
        may.retainAll(burnt);
        for (int[] saying : sayings) {
            may.removeIf(book -> {
                int told = book(book, saying[0]);
                boolean so = saying[0] == 0 ? told >= saying[1] : told == saying[1];
                return so != (saying[2] == 1);
            });
        }
        return bits(may);
    }

    int coming(int seed, int what) {
        if (what < 0 || what > 1) {
            return BAD;
        }
        long[] state = {seed & 0xffffffffL};
        List<Integer> offered = new ArrayList<>(those(left()));
        while (!offered.isEmpty() && entries(1).length > 0) {
            int comer = lot(state, entries(1).length);
            int set = bits(offered);
            if (gain(comer, set) >= settings[0] && king(comer, 0) >= settings[0]) {
                return what == 0 ? set : comer;
            }
            for (int times = 0; times < settings[1] && !offered.isEmpty(); times++) {
                offered.remove(lot(state, offered.size()));
            }
        }
        return NONE;
    }

    private static int lot(long[] state, int m) {
        BigInteger next = BigInteger.valueOf(1103515245).multiply(BigInteger.valueOf(state[0]))
            .add(BigInteger.valueOf(12345)).mod(BigInteger.ONE.shiftLeft(32));
        state[0] = next.longValueExact();
        return (int) (state[0] / 65536 % m);
    }

    // ---- sheets

    private int found(int number) {
        finding = number;
        return -10 - number;
    }

    private static int sizeOf(Object row) {
        return java.lang.reflect.Array.getLength(row);
    }

    private static int itemOf(Object row, int i) {
        return ((Number) java.lang.reflect.Array.get(row, i)).intValue();
    }

    private static int formOf(Object row) {
        return row instanceof byte[] ? 0 : row instanceof short[] ? 1 : 2;
    }

    private static void change(Object row, int i, int v) {
        if (row instanceof byte[]) {
            ((byte[]) row)[i] = (byte) v;
        } else if (row instanceof short[]) {
            ((short[]) row)[i] = (short) v;
        } else {
            ((int[]) row)[i] = v;
        }
    }

    int sheet(int s, int form, int n) {
        if (s < 0 || s > 3 || form < 0 || form > 2 || n > 48) {
            return BAD;
        }
        if (n < 0) {
            return found(5);
        }
        rows[s] = form == 0 ? new byte[n] : form == 1 ? new short[n] : new int[n];
        return n;
    }

    int lose(int s) {
        if (s < 0 || s > 3) {
            return BAD;
        }
        if (rows[s] == null) {
            return found(1);
        }
        int had = sizeOf(rows[s]);
        rows[s] = null;
        return had;
    }

    int put(int s, int form, int i, int v) {
        if (s < 0 || s > 3 || form < 0 || form > 2) {
            return BAD;
        }
        if (rows[s] == null) {
            return found(1);
        }
        if (formOf(rows[s]) != form) {
            return found(3);
        }
        if (i < 0 || i >= sizeOf(rows[s])) {
            return found(2);
        }
        change(rows[s], i, v);
        return 1;
    }

    int get(int s, int form, int i) {
        if (s < 0 || s > 3 || form < 0 || form > 2) {
            return Integer.MIN_VALUE;
        }
        if (rows[s] == null) {
            found(1);
        } else if (formOf(rows[s]) != form) {
            found(3);
        } else if (i < 0 || i >= sizeOf(rows[s])) {
            found(2);
        } else {
            return itemOf(rows[s], i);
        }
        return Integer.MIN_VALUE;
    }

    int copy(int s, int i, int t, int j, int n) {
        if (s < 0 || s > 3 || t < 0 || t > 3) {
            return BAD;
        }
        if (rows[s] == null || rows[t] == null) {
            return found(1);
        }
        if (formOf(rows[s]) != formOf(rows[t])) {
            return found(4);
        }
        if (i < 0 || j < 0 || n < 0 || (long) i + n > sizeOf(rows[s]) || (long) j + n > sizeOf(rows[t])) {
            return found(2);
        }
        int[] were = new int[n];
        for (int k = 0; k < n; k++) {
            were[k] = itemOf(rows[s], i + k);
        }
        for (int k = 0; k < n; k++) {
            change(rows[t], j + k, were[k]);
        }
        return 1;
    }

    int write(int king, int s) {
        if (noKing(king) || s < 0 || s > 3) {
            return BAD;
        }
        if (rows[s] == null) {
            return found(1);
        }
        int[] uses = uses();
        for (int price = 0; price < sizeOf(rows[s]); price++) {
            change(rows[s], price, played(king, price, settings[1], left(), uses).acts[left()]);
        }
        return sizeOf(rows[s]);
    }

    int count(int what) {
        int blank = 0;
        for (int book : those(left())) {
            blank += book(book, 1) == 1 ? 1 : 0;
        }
        int[] counts = {entries(0).length, entries(1).length, texts[0].length(), texts[1].length(),
            burnt.size(), pages.size(), sayings.size(), blank, finding};
        return what < 0 || what > 8 ? BAD : counts[what];
    }

    long digest() {
        List<Long> told = new ArrayList<>();
        for (int what = 0; what <= 7; what++) {
            told.add((long) count(what));
        }
        told.add((long) fault(0));
        told.add((long) fault(1));
        for (int book = 0; book < count(0); book++) {
            for (int what = 0; what <= 2; what++) {
                told.add((long) book(book, what));
            }
        }
        for (int king = 0; king < count(1); king++) {
            tellKing(told, king);
        }
        for (int of : new int[] {left(), use(left()), loss(), enough(9), dearest()}) {
            told.add((long) of);
        }
        told.add(trust(0));
        told.add(trust(1));
        for (int of : new int[] {fourth(), coming(7, 0), coming(7, 1)}) {
            told.add((long) of);
        }
        BigInteger h = BigInteger.valueOf(17);
        for (long next : told) {
            h = h.multiply(BigInteger.valueOf(31)).add(BigInteger.valueOf(next));
        }
        return h.longValue();
    }

    private void tellKing(List<Long> told, int king) {
        told.add((long) king(king, 0));
        told.add((long) king(king, 1));
        told.add((long) gain(king, 511));
        told.add((long) act(king, left()));
        told.add(value(king, left(), 0));
        told.add(value(king, left(), 1));
        told.add(buys(king, 0));
        told.add(buys(king, 1));
        told.add(take(king, 20, 0));
        told.add(take(king, 20, 1));
        told.add((long) price(king));
        told.add((long) burns(king));
        told.add((long) share(0, king, 511, 0));
        told.add((long) share(0, king, 511, 1));
    }
}
