import java.lang.reflect.Method;
import java.lang.reflect.Modifier;
import java.util.ArrayList;
import java.util.Arrays;
import java.util.Comparator;
import java.util.List;
import java.util.Map;
import java.util.Random;
import java.util.TreeMap;

/** Runs of calls by fixed seeds: CrateHelpers answers each call as the model of the document does. */
public final class RandomRunsTest {
    private static final int RUNS = 260;
    private static final Map<String, Integer> COMMON = new TreeMap<>(Map.of(
        "cost", 8, "part", 9, "solve", 5, "node", 6, "with", 4, "closed", 4, "walked", 4, "told", 4, "variable", 3, "helper", 2));

    public static void main(String[] args) {
        Check check = new Check("RandomRunsTest");
        List<Method> calls = callsByWeight();
        for (int seed = 0; seed < RUNS; seed++) {
            run(new Random(seed), seed % 4 != 0, calls, new Beside(check, "seed " + seed));
        }
        check.end();
    }

    private static List<Method> callsByWeight() {
        Method[] all = CrateHelpers.class.getDeclaredMethods();
        Arrays.sort(all, Comparator.comparing(Method::getName));
        List<Method> calls = new ArrayList<>();
        for (Method m : all) {
            int weight = COMMON.getOrDefault(m.getName(), 1);
            for (int i = 0; i < weight && Modifier.isPublic(m.getModifiers()); i++) {
                calls.add(m);
            }
        }
        return calls;
    }

    /** Some runs are given problems with room to search in, others are left to what the calls bring. */
    private static void run(Random random, boolean isBuilt, List<Method> calls, Beside x) {
        if (isBuilt) {
            build(random, x);
        }
        while (!x.isUsedUp()) {
            Method m = calls.get(random.nextInt(calls.size()));
            x.call(m.getName(), arguments(m, random));
        }
    }

    private static void build(Random random, Beside x) {
        int problems = 1 + random.nextInt(2);
        for (int p = 0; p < problems; p++) {
            x.call("problem");
            int variables = 2 + random.nextInt(5);
            int size = 2 + random.nextInt(4);
            int spread = random.nextInt(4) == 0 ? 1 : 1 + random.nextInt(12);
            for (int v = 0; v < variables; v++) {
                int n = random.nextInt(3) == 0 ? 1 + random.nextInt(6) : size;
                x.call("variable", p, n, random.nextInt(4));
                for (int value = 0; value < n; value++) {
                    x.call("cost", p, v, value, random.nextInt(spread) - random.nextInt(2));
                }
            }
            int rules = random.nextInt(4);
            for (int r = 0; r < rules; r++) {
                x.call("rule", p, random.nextInt(8), random.nextInt(14) - 3);
                int weight = random.nextInt(6);
                for (int v = 0; v < variables; v++) {
                    int own = random.nextInt(3) == 0 ? random.nextInt(9) - 3 : weight;
                    if (random.nextInt(4) != 0) {
                        x.call("part", p, r, v, own);
                    }
                }
            }
        }
        x.call("helpers", 1 + random.nextInt(5));
    }

    private static int[] arguments(Method m, Random random) {
        int[] numbers = new int[m.getParameterCount()];
        for (int i = 0; i < numbers.length; i++) {
            numbers[i] = random.nextInt(40) == 0 ? wild(random) : random.nextInt(i == 0 ? 2 : 5);
        }
        switch (m.getName()) {
            case "solve": numbers[1] = random.nextInt(3) == 0 ? 500 : 1 + random.nextInt(30); break;
            case "cost": numbers[3] = random.nextInt(3) == 0 ? random.nextInt(210001) - 105000 : random.nextInt(9); break;
            case "rule": numbers[1] = random.nextInt(8); break;
            case "walked": numbers[0] = random.nextInt(30); numbers[1] = random.nextInt(10); break;
            case "closed": numbers[0] = random.nextInt(30); numbers[2] = random.nextInt(2); break;
            case "node": case "count": case "about": numbers[m.getName().equals("about") ? 1 : 0] = random.nextInt(9); break;
            case "second": numbers[1] = random.nextInt(random.nextBoolean() ? 3 : 63); break;
            case "limit": numbers[0] = random.nextInt(3) == 0 ? random.nextInt(300) : 0; break;
            case "turn": numbers[0] = random.nextInt(6); break;
            case "helper": numbers[0] = random.nextInt(6); break;
            case "helpers": numbers[0] = random.nextInt(7); break;
            default: break;
        }
        return numbers;
    }

    private static int wild(Random random) {
        int[] some = {-1, 6, 7, 8, 50, 51, -50, -51, 200, 201, 1000, 1001, Integer.MAX_VALUE, Integer.MIN_VALUE};
        return some[random.nextInt(some.length)];
    }
}
