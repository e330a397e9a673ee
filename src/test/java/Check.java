/** Counts the answers of a test program that are not as they are due. */
final class Check {
    /** What is not a number that any call takes. */
    static final int FAR = Integer.MAX_VALUE, FAR_BELOW = Integer.MIN_VALUE;

    private static int asked = 0;
    private static int wrong = 0;

    private Check() { }

    static void due(String call, long got, long want) {
        asked++;
        if (got != want) {
            wrong++;
            System.out.println(call + " answered " + got + ", due is " + want);
        }
    }

    /** What a refusal is where the answer is a long. */
    static long refused(int refusal) {
        return Long.MIN_VALUE - refusal;
    }

    static void type(NineBooks x, int text, String bytes) {
        for (int i = 0; i < bytes.length(); i++) {
            x.type(text, bytes.charAt(i));
        }
    }

    static NineBooks with(String books, String kings) {
        NineBooks x = new NineBooks();
        type(x, 0, books);
        type(x, 1, kings);
        return x;
    }

    /** A sheet of ints with these items. */
    static void fill(NineBooks x, int s, int... items) {
        x.sheet(s, 2, items.length);
        for (int i = 0; i < items.length; i++) {
            x.put(s, 2, i, items[i]);
        }
    }

    static void dueItems(NineBooks x, String what, int s, int form, int... items) {
        for (int i = 0; i < items.length; i++) {
            due(what + ", item " + i, x.get(s, form, i), items[i]);
        }
        due(what + ", behind its end", x.get(s, form, items.length), FAR_BELOW);
    }

    static void end() {
        System.out.println(asked + " answers, " + wrong + " wrong");
        System.exit(wrong == 0 && asked > 0 ? 0 : 1);
    }
}
