import java.util.ArrayList;
import java.util.Arrays;
import java.util.List;
import java.util.Random;

/**
 * All rows of values of small problems, each held against the rules and added up: what is found, what is second, and
 * how nodes are judged has to agree with these, however the walk came there.
 */
public final class AllRowsTest {
    private static final int PROBLEMS = 400;
    private static final int NO_COST = -1000000;
    private static final int TOO_FAR = -1000001;
    private static final Check CHECK = new Check("AllRowsTest");

    /** A problem told to an object, and kept here too. */
    private static final class Told {
        final CrateHelpers x = new CrateHelpers();
        final List<int[]> costs = new ArrayList<>();
        final List<int[]> rules = new ArrayList<>();
        final List<int[][]> parts = new ArrayList<>();
        final List<int[]> kept = new ArrayList<>();
        final String name;

        Told(int seed) {
            name = "problem of seed " + seed;
        }
    }

    public static void main(String[] args) {
        int kept = 0;
        int without = 0;
        for (int seed = 0; seed < PROBLEMS; seed++) {
            Random random = new Random(seed);
            Told t = tell(seed, random);
            keepRows(t, new int[t.costs.size()], 0);
            t.kept.sort((a, b) -> costOf(t, a) != costOf(t, b) ? Integer.compare(costOf(t, a), costOf(t, b)) : Arrays.compare(a, b));
            kept += t.kept.isEmpty() ? 0 : 1;
            without += t.kept.isEmpty() ? 1 : 0;
            found(t);
            seconds(t);
            nodes(t, random);
        }
        CHECK.holds("problems with rows, and without: " + kept + ", " + without, kept > PROBLEMS / 4 && without > PROBLEMS / 10);
        CHECK.end();
    }

    private static Told tell(int seed, Random random) {
        Told t = new Told(seed);
        t.x.problem();
        int variables = 1 + random.nextInt(5);
        int like = 1 + random.nextInt(6);
        for (int i = 0; i < variables; i++) {
            int[] costs = new int[random.nextInt(3) == 0 ? 1 + random.nextInt(6) : like];
            t.costs.add(costs);
            t.x.variable(0, costs.length, 3);
            for (int value = 0; value < costs.length; value++) {
                costs[value] = random.nextInt(3) == 0 ? random.nextInt(13) - 4 : value;
                t.x.cost(0, i, value, costs[value]);
            }
        }
        int rules = random.nextInt(4);
        for (int r = 0; r < rules; r++) {
            tellRule(t, r, random);
        }
        return t;
    }

    private static void tellRule(Told t, int rule, Random random) {
        int kind = random.nextInt(8);
        int c = random.nextInt(kind < 4 ? 10 : 4) - 1;
        t.rules.add(new int[] {kind, c});
        t.x.rule(0, kind, c);
        List<int[]> parts = new ArrayList<>();
        int turned = random.nextInt(2);
        for (int i = 0; i < t.costs.size(); i++) {
            int variable = turned == 0 ? i : t.costs.size() - 1 - i;
            int weight = random.nextInt(4) == 0 ? random.nextInt(7) - 3 : 1;
            if (random.nextInt(4) != 0) {
                parts.add(new int[] {variable, weight});
                t.x.part(0, rule, variable, weight);
            }
        }
        t.parts.add(parts.toArray(new int[0][]));
    }

    private static void keepRows(Told t, int[] row, int depth) {
        if (depth < row.length) {
            for (int value = 0; value < t.costs.get(depth).length; value++) {
                row[depth] = value;
                keepRows(t, row, depth + 1);
            }
            return;
        }
        boolean isKept = true;
        for (int r = 0; r < t.rules.size(); r++) {
            isKept = isKept && keeps(t, r, row);
        }
        if (isKept) {
            t.kept.add(row.clone());
        }
    }

    /** Whether a row with all its values keeps a rule. */
    private static boolean keeps(Told t, int rule, int[] row) {
        int kind = t.rules.get(rule)[0];
        int c = t.rules.get(rule)[1];
        int[][] parts = t.parts.get(rule);
        int sum = 0;
        int met = 0;
        int[] loads = new int[6];
        boolean isFar = true;
        boolean isRising = true;
        for (int i = 0; i < parts.length; i++) {
            int value = row[parts[i][0]];
            sum += parts[i][1] * value;
            loads[value] += parts[i][1];
            met += value == parts[i][1] ? 1 : 0;
            for (int j = 0; j < i; j++) {
                int other = row[parts[j][0]];
                isFar = isFar && value != other && (kind == 4 || Math.abs(value - other) >= c);
            }
            isRising = isRising && (i == 0 || value >= row[parts[i - 1][0]] + c);
        }
        switch (kind) {
            case 0: return Arrays.stream(loads).allMatch(load -> load <= c);
            case 1: return sum <= c;
            case 2: return sum >= c;
            case 3: return sum == c;
            case 6: return isRising;
            case 7: return met >= c;
            default: return isFar;
        }
    }

    private static int costOf(Told t, int[] row) {
        int sum = 0;
        for (int i = 0; i < row.length; i++) {
            sum += t.costs.get(i)[row[i]];
        }
        return sum;
    }

    /** What is found is the least of all rows, of equal ones the first: twins leave that one in. */
    private static void found(Told t) {
        int result = t.x.solve(0, 500);
        if (result == CrateHelpers.LARGE) {
            return;
        }
        CHECK.due(t.name + ": solve", result, t.kept.isEmpty() ? CrateHelpers.NOTHING : CrateHelpers.FOUND);
        CHECK.due(t.name + ": told 4", t.x.told(0, 4), t.kept.isEmpty() ? NO_COST : costOf(t, t.kept.get(0)));
        for (int i = 0; i < t.costs.size(); i++) {
            CHECK.due(t.name + ": answer " + i, t.x.answer(0, i), t.kept.isEmpty() ? CrateHelpers.NONE : t.kept.get(0)[i]);
        }
    }

    private static void seconds(Told t) {
        for (int k : new int[] {0, 1, 2, 7, 25, 60}) {
            int cost = t.x.second(0, k);
            if (cost == TOO_FAR) {
                continue;
            }
            boolean isThere = k < t.kept.size();
            CHECK.due(t.name + ": second " + k, cost, isThere ? costOf(t, t.kept.get(k)) : NO_COST);
            for (int i = 0; i < t.costs.size(); i++) {
                CHECK.due(t.name + ": row " + i + " of second " + k, t.x.row(i), isThere ? t.kept.get(k)[i] : CrateHelpers.NONE);
            }
        }
    }

    /** A node that is out or without a way has no row that is kept below it; the bound of an open one is above none. */
    private static void nodes(Told t, Random random) {
        for (int n = 0; n < 12; n++) {
            int[] row = new int[random.nextInt(t.costs.size() + 1)];
            t.x.ask(0);
            for (int i = 0; i < row.length; i++) {
                row[i] = random.nextInt(t.costs.get(i).length);
                t.x.with(row[i]);
            }
            int least = Integer.MAX_VALUE;
            for (int[] full : t.kept) {
                boolean isBelow = Arrays.equals(row, Arrays.copyOf(full, row.length));
                least = isBelow ? Math.min(least, costOf(t, full)) : least;
            }
            int what = t.x.node(2, 0, 0);
            String name = t.name + ": node " + Arrays.toString(row) + " is " + what;
            CHECK.holds(name + ", and none is below it", what == 0 || what == 2 || least == Integer.MAX_VALUE);
            CHECK.holds(name + ", its bound is above none", what != 0 || t.x.node(3, 0, 0) <= least);
            if (row.length == t.costs.size()) {
                fullNode(t, row, what, name);
            }
        }
    }

    private static void fullNode(Told t, int[] row, int what, String name) {
        for (int r = 0; r < t.rules.size(); r++) {
            CHECK.due(name + ", rule " + r + " is broken", t.x.node(0, r, 0), keeps(t, r, row) ? 0 : 1);
        }
        if (what == 0) {
            CHECK.due(name + ", its bound is its cost", t.x.node(3, 0, 0), costOf(t, row));
        }
    }
}
