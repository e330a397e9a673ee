import java.lang.reflect.Method;
import java.util.Arrays;
import java.util.HashMap;
import java.util.Map;

/**
 * Promises 2 to 37: each argument of each call, one just too small and one just too large, the
 * least and the greatest int: it is refused, and nothing is changed; the least and the most that
 * are well are not.
 */
public final class ArgumentsTest {
    /**
     * Of each argument the least that is well, one for when another is tried, and the most; NO for
     * one of which there is no such end; of one that is told alone no other is tried.
     */
    private static final String[] CALLS = {
        "type 0:0:1 0:46:255", "wipe 0:0:1", "undo 0:0:1", "fault 0:0:1",
        "book 0:3:8 0:1:2", "king 0:2:5 0:1:1",
        "set 0:1:2 1:5:9", "set 0 0:50:99", "set 1 1:5:9", "set 2 0:5:16",
        "burn 0:2:8", "read 0:0:3",
        "use 0:3:511", "gain 0:2:5 0:3:511", "enough 0:9:99",
        "act 0:2:5 0:3:511", "value 0:2:5 0:3:511 0:0:1", "buys 0:2:5 0:0:1",
        "take 0:2:5 0:20:99 0:0:1", "price 0:2:5", "burns 0:2:5",
        "share 0:1:5 0:2:5 0:3:511 0:0:1",
        "page 0:0:1", "trust 0:0:1", "said 0:1:2 0:1:2 0:1:1",
        "said 0 0:5:9 0:0:1", "said 1 0:1:2 0:0:1", "said 2 -1:3:8 0:0:1",
        "forget 0:1:1", "coming NO:3:NO 0:0:1",
        "sheet 0:1:3 0:1:2 NO:6:48", "lose 0:1:3", "put 0:1:3 0:1:2 NO:2:NO NO:7:NO",
        "get 0:1:3 0:1:2 NO:2:NO", "copy 0:1:3 NO:0:NO 0:1:3 NO:2:NO NO:1:NO",
        "write 0:2:5 0:1:3", "count 0:4:8"};

    private static final Map<String, Method> METHODS = new HashMap<>();

    public static void main(String[] args) throws ReflectiveOperationException {
        for (Method method : NineBooks.class.getMethods()) {
            METHODS.put(method.getName(), method);
        }
        for (String call : CALLS) {
            String[] ranges = call.split(" ");
            for (int place = 1; place < ranges.length; place++) {
                if (ranges[place].contains(":")) {
                    tryArgument(ranges, place);
                }
            }
        }
        Check.end();
    }

    private static void tryArgument(String[] ranges, int place) throws ReflectiveOperationException {
        String[] range = ranges[place].split(":");
        if (!range[0].equals("NO")) {
            int least = Integer.parseInt(range[0]);
            dueBad(ranges, place, least - 1);
            dueBad(ranges, place, Check.FAR_BELOW);
            dueWell(ranges, place, least);
        }
        if (!range[2].equals("NO")) {
            int most = Integer.parseInt(range[2]);
            dueBad(ranges, place, most + 1);
            dueBad(ranges, place, Check.FAR);
            dueWell(ranges, place, most);
        }
        if (range[0].equals("NO") && range[2].equals("NO")) {
            dueWell(ranges, place, Check.FAR_BELOW);
            dueWell(ranges, place, Check.FAR);
        }
    }

    private static Object[] arguments(String[] ranges, int place, int tried) {
        Object[] told = new Object[ranges.length - 1];
        for (int i = 0; i < told.length; i++) {
            String[] range = ranges[i + 1].split(":");
            told[i] = i + 1 == place ? tried : Integer.parseInt(range[range.length / 2]);
        }
        return told;
    }

    private static long bad(Method method) {
        if (method.getReturnType() == long.class) {
            return -9223372036854775806L;
        }
        return method.getName().equals("get") ? -2147483648 : -2;
    }

    private static void dueBad(String[] ranges, int place, int tried)
            throws ReflectiveOperationException {
        Method method = METHODS.get(ranges[0]);
        Object[] told = arguments(ranges, place, tried);
        String call = ranges[0] + Arrays.toString(told);
        NineBooks x = made(ranges[0]);
        Check.due(call, ((Number) method.invoke(x, told)).longValue(), bad(method));
        Check.due(call + " is no finding", x.count(8), 0);
        boolean same = Scene.told(x).equals(Scene.told(made(ranges[0])));
        Check.due(call + " left all as it was", same ? 1 : 0, 1);
    }

    private static void dueWell(String[] ranges, int place, int tried)
            throws ReflectiveOperationException {
        Method method = METHODS.get(ranges[0]);
        Object[] told = arguments(ranges, place, tried);
        NineBooks x = made(ranges[0]);
        long got = ((Number) method.invoke(x, told)).longValue();
        // get() tells all its refusals alike: those that are not BAD leave a finding.
        boolean well = got != bad(method) || x.count(8) != 0;
        Check.due(ranges[0] + Arrays.toString(told) + " is not BAD", well ? 1 : 0, 1);
    }

    /** No byte comes behind full texts: type() is tried where one byte of each has gone. */
    private static NineBooks made(String name) {
        NineBooks x = Scene.full();
        if (name.equals("type")) {
            x.undo(0);
            x.undo(1);
        }
        return x;
    }
}
