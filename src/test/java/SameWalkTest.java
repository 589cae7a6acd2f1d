import java.util.ArrayList;
import java.util.List;
import java.util.Random;

/**
 * "What is found, and after how many nodes, hangs on the problem alone": one helper that solves a problem in one go, and
 * some that do it by a schedule, fail, stop, are given up once and asked meanwhile, come to the same walk.
 */
public final class SameWalkTest {
    private static final int PROBLEMS = 300;
    private static final Check CHECK = new Check("SameWalkTest");

    private static int calls = 0;
    private static int stuck = 0;

    public static void main(String[] args) {
        for (int seed = 0; seed < PROBLEMS; seed++) {
            sameWalk(seed);
        }
        // A helper that waits with a node can bring a solving to where thirty are done ahead for good.
        CHECK.holds("few solvings came to no end: " + stuck, stuck < PROBLEMS / 20);
        CHECK.end();
    }

    private static void sameWalk(int seed) {
        Random random = new Random(seed);
        List<String> problem = problem(random);
        int limit = random.nextInt(4) == 0 ? 1 + random.nextInt(40) : 0;
        CrateHelpers alone = made(problem, limit);
        calls = problem.size() + 1;
        solveInOneGo(alone);
        List<String> plainly = walk(alone);
        CrateHelpers together = made(problem, limit);
        calls = problem.size() + 1;
        if (!solveByMany(together, random)) {
            stuck++;
            return;
        }
        List<String> byMany = walk(together);
        CHECK.holds("seed " + seed + ": calls are few enough: " + calls, calls <= Run.MOST_CALLS);
        CHECK.due("seed " + seed + ": as much is told", byMany.size(), plainly.size());
        for (int i = 0; i < plainly.size() && i < byMany.size(); i++) {
            CHECK.holds("seed " + seed + ": " + byMany.get(i) + " is " + plainly.get(i), byMany.get(i).equals(plainly.get(i)));
        }
    }

    private static List<String> problem(Random random) {
        List<String> all = new ArrayList<>(List.of("problem()"));
        int variables = 3 + random.nextInt(4);
        int size = 3 + random.nextInt(4);
        for (int i = 0; i < variables; i++) {
            all.add("variable(0, " + size + ", " + random.nextInt(4) + ")");
            for (int n = 0; n < 3; n++) {
                all.add("cost(0, " + i + ", " + random.nextInt(size) + ", " + random.nextInt(5) + ")");
            }
        }
        int rules = 1 + random.nextInt(2);
        for (int r = 0; r < rules; r++) {
            int kind = random.nextInt(3) == 0 ? 3 : random.nextInt(8);
            int c = kind == 3 ? 7 + 2 * random.nextInt(6) : kind >= 5 ? random.nextInt(3) : 4 + random.nextInt(9);
            // An odd sum of even numbers: all that is open is to be walked, or as much of it as may be.
            boolean isEven = kind == 3 && random.nextInt(2) == 0;
            all.add("rule(0, " + kind + ", " + c + ")");
            for (int i = 0; i < variables; i++) {
                all.add("part(0, " + r + ", " + i + ", " + (isEven ? 2 : 1 + random.nextInt(2)) + ")");
            }
        }
        return all;
    }

    private static CrateHelpers made(List<String> problem, int limit) {
        CrateHelpers x = new CrateHelpers();
        for (String call : problem) {
            Run.answer(x, call);
        }
        x.limit(limit);
        return x;
    }

    private static void solveInOneGo(CrateHelpers x) {
        // One helper has two turns for each node of the walk, of which there are 250 at most.
        CHECK.holds("one go is enough", x.solve(0, 500) != CrateHelpers.STOPPED);
        calls++;
    }

    private static boolean solveByMany(CrateHelpers x, Random random) {
        int helpers = 1 + random.nextInt(5);
        x.helpers(helpers);
        for (int i = 0; i < helpers; i++) {
            x.fail(i, random.nextInt(6));
        }
        int scheduled = random.nextInt(60);
        for (int i = 0; i < scheduled; i++) {
            x.turn(random.nextInt(5));
        }
        calls += 1 + helpers + scheduled;
        if (random.nextInt(3) == 0) {
            x.solve(0, 1 + random.nextInt(9));
            x.giveUp();
            calls += 2;
        }
        int result = CrateHelpers.STOPPED;
        for (int i = 0; i < 25 && result == CrateHelpers.STOPPED; i++) {
            result = x.solve(0, i < 15 ? 1 + random.nextInt(30) : 500);
            askMeanwhile(x, random);
            calls += 7;
        }
        return result != CrateHelpers.STOPPED;
    }

    private static void askMeanwhile(CrateHelpers x, Random random) {
        x.ask(0);
        x.with(random.nextInt(3));
        x.node(2 + random.nextInt(3), 0, 0);
        x.second(0, random.nextInt(9));
        x.same(0, 1 + random.nextInt(5));
        x.cost(0, 0, -1, 7);
    }

    /** All that is told of the solving but who did the nodes, how many were done, in how many turns. */
    private static List<String> walk(CrateHelpers x) {
        List<String> lines = new ArrayList<>();
        for (int what : new int[] {0, 1, 4, 5}) {
            see(x, "told(0, " + what + ")", lines);
        }
        for (int i = 0; i < x.about(0, 0, 0); i++) {
            see(x, "answer(0, " + i + ")", lines);
        }
        int taken = x.told(0, 1);
        for (int i : new int[] {0, 1, taken / 2, taken - 1, taken}) {
            for (int what = 0; what < 10; what++) {
                if (what != 8) {
                    see(x, "walked(" + i + ", " + what + ")", lines);
                }
            }
            for (int v = 0; v < 6; v++) {
                see(x, "closed(" + i + ", " + v + ", 0)", lines);
                see(x, "closed(" + i + ", " + v + ", 1)", lines);
            }
        }
        calls += lines.size() + 8;
        return lines;
    }

    private static void see(CrateHelpers x, String call, List<String> lines) {
        lines.add(call + " = " + Run.answer(x, call));
    }
}
