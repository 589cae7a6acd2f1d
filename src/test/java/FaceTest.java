import java.lang.reflect.Field;
import java.lang.reflect.Method;
import java.lang.reflect.Modifier;
import java.nio.file.Files;
import java.nio.file.Path;
import java.util.Arrays;
import java.util.Map;
import java.util.Set;
import java.util.TreeMap;
import java.util.TreeSet;
import java.util.regex.Matcher;
import java.util.regex.Pattern;

/** The public face is the document's, and the file keeps clear of what LANGUAGE.md rules out. */
public final class FaceTest {
    private static final Check CHECK = new Check("FaceTest");

    /** How many numbers each call takes. */
    private static final String CALLS = "problem 0, variable 3, cost 4, rule 3, part 4, number 3, helpers 1, fail 2, turn 1, "
        + "plain 0, limit 1, solve 2, giveUp 0, told 2, answer 2, walked 2, closed 3, helper 2, ask 1, with 1, node 3, "
        + "second 2, row 1, same 2, count 1, about 3, costs 3, status 0";

    private static final String CONSTANTS = "BAD -1, STATE -2, FULL -3, NONE -9, STOPPED 0, FOUND 1, NOTHING 2, LIMITED 3, LARGE 4";

    public static void main(String[] args) throws Exception {
        face();
        classesInside();
        words();
        CHECK.end();
    }

    private static Map<String, Integer> read(String list) {
        Map<String, Integer> all = new TreeMap<>();
        for (String one : list.split(", ")) {
            all.put(one.split(" ")[0], Integer.parseInt(one.split(" ")[1]));
        }
        return all;
    }

    private static void face() throws Exception {
        Map<String, Integer> calls = new TreeMap<>();
        Set<String> hidden = new TreeSet<>();
        for (Method m : CrateHelpers.class.getDeclaredMethods()) {
            if (Modifier.isPrivate(m.getModifiers())) {
                hidden.add(m.getName());
                continue;
            }
            boolean isInts = m.getReturnType() == int.class && Arrays.stream(m.getParameterTypes()).allMatch(t -> t == int.class);
            CHECK.holds(m + " is public, of int alone", Modifier.isPublic(m.getModifiers()) && isInts);
            calls.put(m.getName(), m.getParameterCount());
        }
        CHECK.holds("the calls are " + calls, calls.equals(read(CALLS)));
        hidden.retainAll(calls.keySet());
        CHECK.holds("no private method bears a public name " + hidden, hidden.isEmpty());
        Map<String, Integer> constants = new TreeMap<>();
        for (Field f : CrateHelpers.class.getDeclaredFields()) {
            if (!Modifier.isPrivate(f.getModifiers())) {
                constants.put(f.getName(), f.getInt(null));
            }
            CHECK.holds(f + " is final if static", !Modifier.isStatic(f.getModifiers()) || Modifier.isFinal(f.getModifiers()));
        }
        CHECK.holds("the constants are " + constants, constants.equals(read(CONSTANTS)));
        CHECK.due("constructors", CrateHelpers.class.getDeclaredConstructors().length, 1);
        CHECK.holds("final", Modifier.isFinal(CrateHelpers.class.getModifiers()));
    }

    private static void classesInside() {
        Class<?>[] inside = CrateHelpers.class.getDeclaredClasses();
        CHECK.holds("classes", inside.length < 12);
        for (Class<?> c : inside) {
            CHECK.holds(c + " is static", Modifier.isStatic(c.getModifiers()));
            long fields = Arrays.stream(c.getDeclaredFields()).filter(f -> !Modifier.isStatic(f.getModifiers())).count();
            CHECK.holds(c + " has " + fields + " fields", fields <= 20);
        }
    }

    private static void words() throws Exception {
        String text = Files.readString(Path.of("src/main/java/CrateHelpers.java"));
        CHECK.holds("characters 0 to 255", text.chars().allMatch(c -> c <= 255));
        String code = text.replaceAll("(?s)/\\*.*?\\*/", " ").replaceAll("//[^\n]*", " ");
        for (String word : new String[] {"throw", "throws", "try", "catch", "finally", "synchronized", "assert", "package", "equals", "hashCode", "toString"}) {
            CHECK.holds("no word " + word, !Pattern.compile("\\b" + word + "\\b").matcher(code).find());
        }
        CHECK.holds("no lambda", !code.contains("->") && !code.contains("::"));
        CHECK.holds("none that ends in Exact", !code.contains("Exact"));
        Set<String> imports = new TreeSet<>();
        Matcher m = Pattern.compile("import ([^;]*);").matcher(code);
        while (m.find()) {
            imports.add(m.group(1));
        }
        CHECK.holds("imports " + imports, imports.equals(Set.of("java.util.Arrays")));
    }
}
