import java.lang.reflect.Constructor;
import java.lang.reflect.Field;
import java.lang.reflect.Method;
import java.lang.reflect.Modifier;
import java.util.Arrays;
import java.util.HashSet;
import java.util.Set;
import java.util.TreeSet;

/** The face of the class: what the document names is public, and nothing else is seen. */
public final class FaceTest {
    private static final String[] FACE = {"int type 2", "int wipe 1", "int undo 1", "int fault 1",
        "int book 2", "int king 2", "int set 2", "int burn 1", "int back 0", "int read 1",
        "int left 0", "int use 1", "int gain 2", "int loss 0", "int enough 1", "int dearest 0",
        "int act 2", "long value 3", "long buys 2", "long take 3", "int price 1", "int burns 1",
        "int share 4", "int page 1", "long trust 1", "int said 3", "int forget 1", "int fourth 0",
        "int coming 2", "int sheet 3", "int lose 1", "int put 4", "int get 3", "int copy 5",
        "int write 2", "int count 1", "long digest 0"};

    public static void main(String[] args) {
        methods();
        fields();
        constructors();
        Check.due("public and final", NineBooks.class.getModifiers(), Modifier.PUBLIC | Modifier.FINAL);
        Check.end();
    }

    private static void same(String what, Set<String> got, Set<String> want) {
        if (!got.equals(want)) {
            System.out.println(what + ": " + got);
        }
        Check.due(what, got.equals(want) ? 1 : 0, 1);
    }

    private static void methods() {
        Set<String> seen = new TreeSet<>();
        Set<String> hidden = new HashSet<>();
        for (Method m : NineBooks.class.getDeclaredMethods()) {
            if (Modifier.isPrivate(m.getModifiers())) {
                hidden.add(m.getName());
            } else {
                seen.add(m.getReturnType() + " " + m.getName() + " " + m.getParameterCount());
                Check.due(m.getName() + " is public", m.getModifiers(), Modifier.PUBLIC);
                for (Class<?> type : m.getParameterTypes()) {
                    Check.due(m.getName() + " takes ints", type == int.class ? 1 : 0, 1);
                }
            }
        }
        same("methods", seen, new TreeSet<>(Arrays.asList(FACE)));
        for (String method : FACE) {
            Check.due("hidden " + method, hidden.contains(method.split(" ")[1]) ? 1 : 0, 0);
        }
    }

    private static void fields() {
        Set<String> seen = new TreeSet<>();
        for (Field f : NineBooks.class.getDeclaredFields()) {
            if (!Modifier.isPrivate(f.getModifiers())) {
                seen.add(Modifier.toString(f.getModifiers()) + " " + f.getType() + " " + f.getName());
            }
        }
        String face = "public static final int ";
        same("fields", seen,
            new TreeSet<>(Arrays.asList(face + "NONE", face + "BAD", face + "NOT", face + "FULL")));
    }

    private static void constructors() {
        Constructor<?>[] made = NineBooks.class.getDeclaredConstructors();
        Check.due("constructors", made.length, 1);
        Check.due("it is public", made[0].getModifiers(), Modifier.PUBLIC);
        Check.due("it takes nothing", made[0].getParameterCount(), 0);
    }
}
