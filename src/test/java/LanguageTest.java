import java.io.IOException;
import java.lang.reflect.Field;
import java.lang.reflect.Method;
import java.lang.reflect.Modifier;
import java.nio.file.Files;
import java.nio.file.Path;
import java.util.ArrayList;
import java.util.Arrays;
import java.util.HashSet;
import java.util.List;
import java.util.Set;
import java.util.regex.Matcher;
import java.util.regex.Pattern;

/** ../shared/LANGUAGE.md, as far as the source's words and reflection tell. */
public final class LanguageTest {
    private static final Set<String> BANNED = Set.of("import", "package", "throw", "throws", "try",
        "catch", "finally", "synchronized", "assert", "protected", "volatile", "native", "var",
        "equals", "hashCode", "toString", "Object");
    /** The library that the class uses; LANGUAGE.md, rule 4, lists what it may. */
    private static final Set<String> LIBRARY = Set.of("Integer.bitCount",
        "Integer.numberOfTrailingZeros", "Math.max", "Math.min", "System.arraycopy");
    private static final int MOST_CLASSES = 12, MOST_FIELDS = 20, MOST_PARAMETERS = 7;
    private static final int MOST_LINES = 60;

    public static void main(String[] args) throws IOException {
        String source = Files.readString(Path.of("src/main/java/NineBooks.java"));
        List<Class<?>> classes = new ArrayList<>(List.of(NineBooks.class));
        classes.addAll(Arrays.asList(NineBooks.class.getDeclaredClasses()));
        ascii(source);
        String bare = withoutWordsOfItsOwn(source);
        words(bare, classes);
        lengths(bare);
        for (Class<?> one : classes) {
            shape(one);
        }
        Check.due("classes", classes.size() <= MOST_CLASSES ? 1 : 0, 1);
        Check.end();
    }

    private static void holds(String what, boolean so) {
        Check.due(what, so ? 1 : 0, 1);
    }

    private static void ascii(String source) {
        holds("signs 1 to 127", source.chars().allMatch(sign -> sign >= 1 && sign <= 127));
    }

    /** The source with its lines, but without comments and what stands in quotes. */
    private static String withoutWordsOfItsOwn(String source) {
        String comment = "/\\*.*?\\*/|//[^\n]*";
        String quoted = "\"(\\\\.|[^\"\\\\])*\"|'(\\\\.|[^'])+'";
        Matcher matcher = Pattern.compile("(?s)" + comment + "|" + quoted).matcher(source);
        return matcher.replaceAll(found -> found.group().replaceAll("[^\n]", " "));
    }

    /** Rules 2 to 4, 6 and 13. */
    private static void words(String bare, List<Class<?>> classes) {
        Set<String> own = new HashSet<>();
        for (Class<?> one : classes) {
            own.add(one.getSimpleName());
        }
        holds("no lambda", !bare.contains("->"));
        holds("no method reference", !bare.contains("::"));
        holds("no annotation", !bare.contains("@"));
        Matcher word = Pattern.compile("\\b[A-Za-z_]\\w*(\\.\\w+)?").matcher(bare);
        while (word.find()) {
            for (String part : word.group().split("\\.")) {
                holds("the word " + part, !BANNED.contains(part));
            }
            String first = word.group().split("\\.")[0];
            boolean isType = Character.isUpperCase(first.charAt(0)) && !first.matches("[A-Z_]+");
            holds(word.group() + " of the library",
                !isType || own.contains(first) || LIBRARY.contains(word.group()));
        }
    }

    /** Rule 11: methods of some sixty lines. */
    private static void lengths(String bare) {
        Pattern head = Pattern.compile("(?m)^( {4}| {8})\\w[\\w\\[\\] ]*\\([^)]*\\) \\{$");
        Matcher method = head.matcher(bare);
        int methods = 0;
        while (method.find()) {
            int end = bare.indexOf("\n" + method.group(1) + "}\n", method.end());
            holds("an end of " + method.group().trim(), end > 0);
            String body = bare.substring(method.start(), Math.max(method.start(), end));
            long lines = body.lines().count() + 1;
            holds(method.group().trim() + " has " + lines + " lines", lines <= MOST_LINES);
            methods++;
        }
        holds("methods were found", methods > NineBooks.class.getDeclaredMethods().length);
    }

    /** Rules 1, 2, 5, 6 and 11. */
    private static void shape(Class<?> one) {
        String name = one.getSimpleName();
        boolean inside = one != NineBooks.class;
        holds(name + " is static", !inside || Modifier.isStatic(one.getModifiers()));
        holds(name + " is not public", !inside || !Modifier.isPublic(one.getModifiers()));
        holds(name + " has no classes inside", !inside || one.getDeclaredClasses().length == 0);
        int fields = 0;
        for (Field field : one.getDeclaredFields()) {
            boolean constant = Modifier.isStatic(field.getModifiers());
            fields += constant ? 0 : 1;
            holds(name + "." + field.getName() + " is no state of the class",
                !constant || Modifier.isFinal(field.getModifiers()));
        }
        holds(name + " has " + fields + " fields", fields <= MOST_FIELDS);
        for (Method method : one.getDeclaredMethods()) {
            holds(name + "." + method.getName() + " takes few",
                method.getParameterCount() <= MOST_PARAMETERS);
        }
    }
}
