/** Promises 26 to 29: count, about, costs, status. */
public final class TellingTest {
    private static final int BAD = CrateHelpers.BAD, NONE = CrateHelpers.NONE;
    private static final int REFUSED = -1000000;
    private static final Check CHECK = new Check("TellingTest");

    public static void main(String[] args) {
        count();
        about();
        costsAndStatus();
        CHECK.end();
    }

    private static void counts(String when, CrateHelpers x, int... want) {
        for (int i = 0; i < want.length; i++) {
            CHECK.due("count(" + i + ") " + when, x.count(i), want[i]);
        }
    }

    private static void count() {
        CrateHelpers x = Samples.pair();
        x.problem();
        x.limit(7);
        x.helpers(4);
        x.turn(0);
        x.turn(0);
        x.turn(0);
        x.turn(0);
        counts("before", x, 2, 7, 4, 4, NONE, 0, 0, 0);
        x.solve(0, 1);
        counts("as that of none is taken", x, 2, 7, 4, 4, 0, 1, 0, 0);
        x.solve(0, 1);
        counts("as it is done", x, 2, 7, 4, 4, 0, 3, 1, 1);
        x.solve(0, 2);
        // What is below [1] is known, [1, 1] too, though that is not open.
        counts("as [1] is done", x, 2, 7, 4, 4, 0, 5, 2, 2);
        x.solve(0, 500);
        counts("behind it", x, 2, 7, 4, 4, NONE, 0, 0, 0);
        CHECK.due("count(8)", x.count(8), BAD);
        CHECK.due("count(-1)", x.count(-1), BAD);
    }

    private static void about() {
        CrateHelpers x = Samples.pair();
        x.rule(0, 7, -3);
        x.variable(0, 5, 2);
        int[][] asked = {{0, 99, 3}, {1, -1, 2}, {2, 0, 4}, {3, 0, 0}, {4, 0, 2}, {2, 1, 7}, {3, 1, -3}, {4, 1, 0}, {5, 0, 2}, {5, 2, 5}, {6, 0, 3}, {6, 2, 2}};
        for (int[] a : asked) {
            x.costs(9, 9, 9);
            CHECK.due("about " + a[0] + " of " + a[1], x.about(0, a[0], a[1]), a[2]);
            CHECK.due("status", x.status(), 0);
        }
        int[][] wrong = {{1, 0, 0}, {-1, 0, 0}, {0, 7, 0}, {0, -1, 0}, {0, 2, 2}, {0, 3, -1}, {0, 4, 2}, {0, 5, 3}, {0, 6, -1}};
        for (int[] w : wrong) {
            x.costs(0, 0, 0);
            CHECK.due("about that is bad", x.about(w[0], w[1], w[2]), REFUSED);
            CHECK.due("status", x.status(), BAD);
        }
        x.solve(0, 1);
        CHECK.due("about while under way", x.about(0, 0, 0), 3);
    }

    private static void costsAndStatus() {
        CrateHelpers x = Samples.pair();
        CHECK.due("costs", x.costs(0, 1, 1), 5);
        int[][] wrong = {{1, 0, 0}, {-1, 0, 0}, {0, 2, 0}, {0, -1, 0}, {0, 0, 2}, {0, 0, -1}};
        for (int[] w : wrong) {
            x.about(0, 0, 0);
            CHECK.due("costs that is bad", x.costs(w[0], w[1], w[2]), REFUSED);
            CHECK.due("status", x.status(), BAD);
            CHECK.due("status again", x.status(), BAD);
        }
        x.variable(9, 9, 9);
        x.told(0, 0);
        CHECK.due("other calls do not count", x.status(), BAD);
        x.costs(0, 0, 0);
        x.variable(9, 9, 9);
        CHECK.due("other refusals do not count", x.status(), 0);
        x.solve(0, 1);
        x.number(0, 0, 1);
        CHECK.due("status of number()", x.status(), CrateHelpers.STATE);
        x.costs(0, 0, 0);
        CHECK.due("status of costs()", x.status(), 0);
        x.cost(0, 0, 0, 1);
        CHECK.due("status of cost()", x.status(), CrateHelpers.STATE);
    }
}
