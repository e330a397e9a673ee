import java.lang.reflect.Method;
import java.util.HashMap;
import java.util.Map;

/** All promises: runs of calls by lots, each answer against that of SlowBooks. */
public final class ModelTest {
    private static final int RUNS = 400, CALLS = 250;

    /** Of each call, how often it comes, and of each argument the least and the most as told. */
    private static final String[] CALLED = {
        "type 12 0:1 40:60", "wipe 1 0:1", "undo 6 0:1", "fault 3 0:1", "book 3 0:8 0:2",
        "king 3 0:5 0:1", "set 8 0:2 0:16", "set 4 0:0 0:99", "burn 8 0:8", "back 5", "read 3 0:3",
        "left 3", "use 5 0:511", "gain 4 0:5 0:511", "loss 4", "enough 4 0:50", "dearest 4",
        "act 5 0:5 0:511", "value 5 0:5 0:511 0:1", "buys 4 0:5 0:1", "take 4 0:5 0:99 0:1",
        "price 1 0:5", "burns 1 0:5", "share 6 0:5 0:5 0:511 0:1", "page 4 0:1", "trust 6 0:1",
        "said 4 0:2 -1:8 0:1", "forget 2 0:1", "fourth 6", "coming 6 -99999:99999 0:1",
        "sheet 4 0:3 0:2 0:48", "sheet 4 0:3 0:2 0:8", "lose 1 0:3", "put 8 0:3 0:2 0:9 -1:9",
        "put 4 0:3 0:2 0:9 -99999:99999", "get 8 0:3 0:2 0:9", "copy 8 0:3 0:8 0:3 0:8 0:8",
        "write 1 0:5 0:3", "count 6 0:8", "digest 1"};

    private static int lot = 20261119;
    private static final Map<String, Method> FAST = new HashMap<>();
    private static final Map<String, Method> SLOW = new HashMap<>();

    /** A number from 0 on, below m. */
    private static int lot(int m) {
        lot = 1664525 * lot + 1013904223;
        return (lot >>> 8) % m;
    }

    public static void main(String[] args) throws ReflectiveOperationException {
        for (Method method : NineBooks.class.getMethods()) {
            FAST.put(method.getName(), method);
        }
        for (Method method : SlowBooks.class.getDeclaredMethods()) {
            SLOW.put(method.getName(), method);
        }
        for (int run = 0; run < RUNS; run++) {
            run(run);
        }
        Check.end();
    }

    private static void run(int run) throws ReflectiveOperationException {
        NineBooks x = new NineBooks();
        SlowBooks y = new SlowBooks();
        retype(run, x, y, 0, books(lot(10)));
        retype(run, x, y, 1, kings(lot(7)));
        for (int call = 0; call < CALLS; call++) {
            if (lot(60) == 0) {
                retype(run, x, y, 0, books(lot(10)));
            }
            String[] called = drawn();
            Object[] told = new Object[called.length - 2];
            for (int i = 0; i < told.length; i++) {
                told[i] = argument(called[i + 2]);
            }
            due(run, x, y, called[0], told);
        }
        due(run, x, y, "digest");
    }

    private static String[] drawn() {
        int all = 0;
        for (String call : CALLED) {
            all += Integer.parseInt(call.split(" ")[1]);
        }
        int rest = lot(all);
        int i = 0;
        while (rest >= Integer.parseInt(CALLED[i].split(" ")[1])) {
            rest -= Integer.parseInt(CALLED[i].split(" ")[1]);
            i++;
        }
        return CALLED[i].split(" ");
    }

    private static int argument(String told) {
        int least = Integer.parseInt(told.split(":")[0]);
        int most = Integer.parseInt(told.split(":")[1]);
        int[] wrong = {least - 1, most + 1, Integer.MIN_VALUE, Integer.MAX_VALUE, -5, 100};
        return lot(25) == 0 ? wrong[lot(wrong.length)] : least + lot(most - least + 1);
    }

    private static void retype(int run, NineBooks x, SlowBooks y, int text, String bytes)
            throws ReflectiveOperationException {
        due(run, x, y, "wipe", text);
        for (int i = 0; i < bytes.length(); i++) {
            due(run, x, y, "type", text, (int) bytes.charAt(i));
        }
    }

    private static String books(int many) {
        StringBuilder text = new StringBuilder();
        for (int book = 0; book < many; book++) {
            text.append(book == 0 ? "" : ";").append(lot(10)).append("ooobpp".charAt(lot(6)));
            text.append(lot(2) == 0 ? "." : "" + lot(9));
        }
        return text.toString();
    }

    private static String kings(int many) {
        StringBuilder text = new StringBuilder();
        for (int king = 0; king < many; king++) {
            text.append(king == 0 ? "" : ";").append(lot(10)).append(lot(10)).append(lot(10));
        }
        return text.toString();
    }

    private static void due(int run, NineBooks x, SlowBooks y, String name, Object... told)
            throws ReflectiveOperationException {
        Number want = (Number) SLOW.get(name).invoke(y, told);
        Number got = (Number) FAST.get(name).invoke(x, told);
        String call = "run " + run + ": " + name + java.util.Arrays.toString(told);
        Check.due(call, got.longValue(), want.longValue());
    }
}
