/** Objects in which much has happened, and all that can be told of an object. */
final class Scene {
    static final String NINE = "5o.;8o0;3b.;9p.;4o2;7o5;6b8;0p3;9o4";
    static final String SIX = "401;139;990;001;509;992";
    static final String NINES = "9o.;9o.;9o.;9o.;9o.;9o.;9o.;9o.;9o.";
    private static final int BYTES = 0, SHORTS = 1, INTS = 2;

    private Scene() { }

    /** Nine books, three of them burnt, six kings, pages, sayings, and a sheet of each form. */
    static NineBooks full() {
        NineBooks x = Check.with(NINE, SIX);
        x.set(0, 13);
        x.set(1, 2);
        x.set(2, 5);
        x.burn(1);
        x.burn(6);
        x.burn(7);
        x.page(1);
        x.page(0);
        x.said(0, 1, 1);
        x.said(2, 3, 0);
        fill(x, 0, BYTES, 2, 0, 8);
        fill(x, 1, SHORTS, 4, 3, 9, 300);
        fill(x, 2, INTS, 5, 70000, -7, 0, 1);
        return x;
    }

    private static void fill(NineBooks x, int s, int form, int... items) {
        x.sheet(s, form, items.length);
        for (int i = 0; i < items.length; i++) {
            x.put(s, form, i, items[i]);
        }
    }

    /** Nine books and six kings; all books are burnt, the ninth first. */
    static NineBooks allBurnt() {
        NineBooks x = Check.with(NINE, SIX);
        for (int book = 8; book >= 0; book--) {
            x.burn(book);
        }
        return x;
    }

    /**
     * All that is told of an object but the latest finding, so that two of them can be found alike.
     * The object is used up: what is hidden is told as settings, burnings, sheets and texts go.
     */
    static String told(NineBooks x) {
        StringBuilder all = new StringBuilder();
        for (int what = 0; what <= 7; what++) {
            all.append(" count ").append(x.count(what));
        }
        all.append(" digest ").append(x.digest());
        all.append(" price ").append(x.set(0, 7)).append(" burns ").append(x.set(1, 1));
        all.append(" doubt ").append(x.set(2, 8));
        tellSheets(x, all);
        for (int left = x.back(); left >= 0; left = x.back()) {
            all.append(" back ").append(x.left());
        }
        all.append(" trust ").append(x.trust(0)).append('/').append(x.trust(1));
        all.append(" pages ").append(x.forget(0));
        for (int book = 0; book <= 8; book++) {
            x.burn(book);
        }
        all.append(" fourth ").append(x.fourth()).append(" said ").append(x.forget(1));
        tellText(x, all, 0);
        tellText(x, all, 1);
        return all.toString();
    }

    private static void tellSheets(NineBooks x, StringBuilder all) {
        for (int s = 0; s <= 3; s++) {
            for (int form = BYTES; form <= INTS; form++) {
                for (int i = 0; i < 6; i++) {
                    all.append(' ').append(x.get(s, form, i));
                }
            }
            all.append(" lose ").append(x.lose(s));
        }
    }

    private static void tellText(NineBooks x, StringBuilder all, int text) {
        for (int bytes = x.count(2 + text); bytes > 0; bytes = x.undo(text)) {
            all.append(" text ").append(x.fault(text)).append(' ').append(x.digest());
        }
    }
}
