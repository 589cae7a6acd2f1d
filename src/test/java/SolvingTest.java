/** Promises 13 to 19: solving, and what is told of it. */
public final class SolvingTest {
    private static final int BAD = CrateHelpers.BAD, STATE = CrateHelpers.STATE, NONE = CrateHelpers.NONE;
    private static final int STOPPED = CrateHelpers.STOPPED, FOUND = CrateHelpers.FOUND, NOTHING = CrateHelpers.NOTHING;
    private static final int NO_COST = -1000000;
    private static final Check CHECK = new Check("SolvingTest");

    public static void main(String[] args) {
        found();
        refused();
        nothing();
        large();
        limited();
        giveUp();
        toldUntilChanged();
        walkedOfAnyProblem();
        twins();
        ties();
        helpersTold();
        emptyProblem();
        CHECK.end();
    }

    private static void found() {
        CrateHelpers x = Samples.pair();
        CHECK.due("told before", x.told(0, 0), NONE);
        CHECK.due("answer before", x.answer(0, 0), NONE);
        CHECK.due("solve(0, 5)", x.solve(0, 5), STOPPED);
        CHECK.due("told while under way", x.told(0, 0), NONE);
        CHECK.due("walked while under way", x.walked(0, 0), NONE);
        CHECK.due("solve(0, 1)", x.solve(0, 1), FOUND);
        int[] told = {FOUND, 3, 3, 6, 1, 1};
        for (int i = 0; i < told.length; i++) {
            CHECK.due("told " + i, x.told(0, i), told[i]);
        }
        CHECK.due("answer 0", x.answer(0, 0), 1);
        CHECK.due("answer 1", x.answer(0, 1), 0);
        int[][] walked = {{0, NONE, NONE, NONE, NONE, NONE, NONE, 0, 0, 2}, {1, 1, NONE, NONE, NONE, NONE, NONE, 1, 0, 1}, {2, 1, 0, NONE, NONE, NONE, NONE, 1, 0, 0}};
        for (int i = 0; i < 3; i++) {
            for (int what = 0; what < 10; what++) {
                CHECK.due("walked " + i + " " + what, x.walked(i, what), walked[i][what]);
            }
        }
        CHECK.due("walked 3", x.walked(3, 0), NONE);
        CHECK.due("walked -1", x.walked(-1, 0), NONE);
        CHECK.due("walked what -1", x.walked(0, -1), BAD);
        CHECK.due("walked what 10", x.walked(3, 10), BAD);
        CHECK.due("closed [1, 0]", x.closed(1, 0, 0), 0);
        CHECK.due("closed [1, 0] why", x.closed(1, 0, 1), NONE);
        CHECK.due("closed [1, 1]", x.closed(1, 1, 0), 1);
        CHECK.due("closed [1, 1] why", x.closed(1, 1, 1), 0);
        CHECK.due("closed by a value that is not", x.closed(1, 2, 0), NONE);
        CHECK.due("closed by value -1", x.closed(1, -1, 0), NONE);
        CHECK.due("closed below a full one", x.closed(2, 0, 0), NONE);
        CHECK.due("closed of none such", x.closed(3, 0, 0), NONE);
        CHECK.due("closed what 2", x.closed(3, 0, 2), BAD);
        CHECK.due("closed what -1", x.closed(0, 0, -1), BAD);
    }

    private static void refused() {
        CrateHelpers x = Samples.pair();
        CHECK.due("solve(1, 1)", x.solve(1, 1), BAD);
        CHECK.due("solve(-1, 1)", x.solve(-1, 1), BAD);
        CHECK.due("solve(0, 0)", x.solve(0, 0), BAD);
        CHECK.due("solve(0, 501)", x.solve(0, 501), BAD);
        x.problem();
        CHECK.due("solve(0, 1)", x.solve(0, 1), STOPPED);
        CHECK.due("solve(1, 1)", x.solve(1, 1), STATE);
        CHECK.due("solve(1, 0)", x.solve(1, 0), BAD);
        CHECK.due("told(2, 0)", x.told(2, 0), BAD);
        CHECK.due("told(0, 6)", x.told(0, 6), BAD);
        CHECK.due("told(0, -1)", x.told(0, -1), BAD);
        CHECK.due("answer(2, 0)", x.answer(2, 0), BAD);
        CHECK.due("answer(0, 2)", x.answer(0, 2), BAD);
        CHECK.due("answer(0, -1)", x.answer(0, -1), BAD);
    }

    private static void nothing() {
        CrateHelpers x = Samples.cramped();
        CHECK.due("solve(0, 1)", x.solve(0, 1), STOPPED);
        CHECK.due("solve(0, 1)", x.solve(0, 1), NOTHING);
        int[] told = {NOTHING, 1, 1, 2, NO_COST, NO_COST};
        for (int i = 0; i < told.length; i++) {
            CHECK.due("told " + i, x.told(0, i), told[i]);
        }
        CHECK.due("answer", x.answer(0, 0), NONE);
        CHECK.due("closed [0]", x.closed(0, 0, 0), 3);
        CHECK.due("closed [0] why", x.closed(0, 0, 1), 1);
        CHECK.due("open below that of none", x.walked(0, 9), 0);
        x.rule(0, 2, 1);
        CHECK.due("that of none is out", x.solve(0, 1), NOTHING);
        int[] without = {NOTHING, 0, 0, 0, NO_COST, NO_COST};
        for (int i = 0; i < without.length; i++) {
            CHECK.due("told without a turn " + i, x.told(0, i), without[i]);
        }
        CHECK.due("walked", x.walked(0, 0), NONE);
        CHECK.due("under way", x.count(4), NONE);
        CHECK.due("done under number 0", x.helper(0, 0), 0);
    }

    private static void large() {
        CrateHelpers x = Samples.odd();
        CHECK.due("solve(0, 499)", x.solve(0, 499), STOPPED);
        CHECK.due("taken", x.count(7), 249);
        CHECK.due("solve(0, 1)", x.solve(0, 1), CrateHelpers.LARGE);
        CHECK.due("taken", x.told(0, 1), 250);
        CHECK.due("turns", x.told(0, 3), 500);
        CHECK.due("cost", x.told(0, 4), NO_COST);
        CHECK.due("least open", x.told(0, 5), x.walked(249, 7));
        CHECK.due("answer", x.answer(0, 0), NONE);
        CHECK.due("walked 250", x.walked(250, 0), NONE);
        CHECK.holds("walked 249 is there", x.walked(249, 0) > 0);
        x.limit(250);
        CHECK.due("solve with limit 250", x.solve(0, 500), CrateHelpers.LARGE);
        x.limit(249);
        CHECK.due("solve with limit 249", x.solve(0, 500), CrateHelpers.LIMITED);
        x.limit(1000);
        x.helpers(5);
        int result = STOPPED;
        for (int i = 0; i < 9 && result == STOPPED; i++) {
            result = x.solve(0, 500);
        }
        CHECK.due("solve by five", result, CrateHelpers.LARGE);
        CHECK.due("taken by five", x.told(0, 1), 250);
    }

    private static void limited() {
        CrateHelpers x = Samples.pair();
        x.limit(1);
        CHECK.due("solve", x.solve(0, 500), CrateHelpers.LIMITED);
        CHECK.due("taken", x.told(0, 1), 1);
        CHECK.due("least open", x.told(0, 5), 1);
        CHECK.due("cost", x.told(0, 4), NO_COST);
        x.limit(2);
        x.helpers(2);
        x.turn(0);
        x.turn(0);
        x.turn(0);
        x.turn(1);
        x.turn(1);
        x.solve(0, 500);
        CHECK.due("done ahead of the walk", x.told(0, 2), 3);
        CHECK.due("least open below what was taken", x.told(0, 5), 1);
        CHECK.due("closed of the second one taken", x.closed(1, 1, 0), 1);
        // The walk ends as the limit is met, before it looks whether another is left.
        CrateHelpers y = Samples.cramped();
        y.limit(1);
        CHECK.due("limit met, none left", y.solve(0, 500), CrateHelpers.LIMITED);
        CHECK.due("least open", y.told(0, 5), NO_COST);
    }

    private static void giveUp() {
        CrateHelpers x = Samples.pair();
        CHECK.due("giveUp()", x.giveUp(), STATE);
        x.solve(0, 500);
        x.problem();
        x.variable(1, 2, 0);
        x.helpers(2);
        x.fail(0, 1);
        CHECK.due("solve(1, 3)", x.solve(1, 3), STOPPED);
        CHECK.due("known", x.count(5), 1);
        CHECK.due("giveUp()", x.giveUp(), 1);
        CHECK.due("giveUp() again", x.giveUp(), STATE);
        CHECK.due("under way", x.count(4), NONE);
        CHECK.due("known", x.count(5), 0);
        CHECK.due("told(1, 0)", x.told(1, 0), NONE);
        CHECK.due("told(0, 3)", x.told(0, 3), 6);
        CHECK.due("walked stays", x.walked(2, 1), 1);
        CHECK.due("done in what began latest", x.helper(0, 0), 0);
        CHECK.due("replaced stays", x.helper(0, 2), 1);
        CHECK.due("idle stays", x.helper(1, 1), 1);
        CHECK.due("solve(0, 1) begins", x.solve(0, 1), STOPPED);
        CHECK.due("done", x.count(6), 0);
        CHECK.due("told of the one before", x.told(0, 3), 6);
        CHECK.due("giveUp()", x.giveUp(), 0);
        CHECK.due("told of the one before", x.told(0, 3), 6);
    }

    private static void toldUntilChanged() {
        for (int change = 0; change < 5; change++) {
            CrateHelpers x = Samples.pair();
            x.problem();
            x.solve(0, 500);
            x.solve(1, 500);
            switch (change) {
                case 0: x.variable(0, 2, 0); break;
                case 1: x.cost(0, 0, 0, 3); break;
                case 2: x.rule(0, 0, 50); break;
                case 3: x.rule(0, 0, 50); x.solve(0, 500); x.part(0, 1, 0, 1); break;
                default: x.number(0, 0, 9); break;
            }
            CHECK.due("told behind change " + change, x.told(0, 1), NONE);
            CHECK.due("answer behind change " + change, x.answer(0, 0), NONE);
            CHECK.due("told of the other problem", x.told(1, 0), FOUND);
        }
        CrateHelpers x = Samples.pair();
        x.solve(0, 500);
        x.cost(0, 0, 0, 100001);
        x.variable(0, 0, 0);
        x.limit(1);
        x.helpers(3);
        CHECK.due("what is refused changes nothing", x.told(0, 1), 3);
        CHECK.due("answer", x.answer(0, 0), 1);
    }

    private static void walkedOfAnyProblem() {
        CrateHelpers x = Samples.pair();
        x.solve(0, 500);
        x.variable(0, 4, 0);
        x.cost(0, 0, 1, 77);
        CHECK.due("walked stays as the problem changes", x.walked(1, 7), 1);
        CHECK.due("closed stays", x.closed(1, 1, 0), 1);
        CHECK.due("a full one stays full", x.closed(2, 0, 0), NONE);
        CHECK.due("below a full one", x.walked(2, 9), 0);
        x.problem();
        x.variable(1, 3, 0);
        x.cost(1, 0, 0, 9);
        x.cost(1, 0, 1, -4);
        x.solve(1, 500);
        CHECK.due("walked of the other problem", x.walked(1, 7), -4);
        CHECK.due("its value", x.walked(1, 1), 1);
        CHECK.due("its end", x.walked(2, 0), NONE);
        CHECK.due("its cost", x.told(1, 4), -4);
        CHECK.due("open below that of none", x.walked(0, 9), 3);
    }

    /** Three variables of which 0 and 1 are twins, but for what the numbers change. */
    private static CrateHelpers maybeTwins(int weightOf1, int kind, int costOf1, int sizeOf1) {
        CrateHelpers x = new CrateHelpers();
        x.problem();
        for (int v = 0; v < 3; v++) {
            x.variable(0, v == 1 ? sizeOf1 : 3, v);
            x.cost(0, v, 0, 1);
        }
        x.cost(0, 1, 0, costOf1);
        x.rule(0, kind, kind == 6 ? -9 : 50);
        x.part(0, 0, 0, 2);
        if (weightOf1 != 99) {
            x.part(0, 0, 1, weightOf1);
        }
        return x;
    }

    private static int kindOfOneZero(CrateHelpers x) {
        x.ask(0);
        x.with(1);
        x.with(0);
        return x.node(2, 0, 0);
    }

    private static void twins() {
        CHECK.due("twins", kindOfOneZero(maybeTwins(2, 1, 1, 3)), 2);
        CHECK.due("other weight", kindOfOneZero(maybeTwins(3, 1, 1, 3)), 0);
        CHECK.due("no part", kindOfOneZero(maybeTwins(99, 1, 1, 3)), 0);
        CHECK.due("rising", kindOfOneZero(maybeTwins(2, 6, 1, 3)), 0);
        CHECK.due("other cost", kindOfOneZero(maybeTwins(2, 1, 2, 3)), 0);
        CHECK.due("other size", kindOfOneZero(maybeTwins(2, 1, 1, 2)), 0);
        CrateHelpers x = new CrateHelpers();
        x.problem();
        for (int v = 0; v < 4; v++) {
            x.variable(0, 3, v);
        }
        x.cost(0, 0, 0, 5);
        CHECK.due("node of none", x.ask(0) + x.node(2, 0, 0), 4);
        x.with(2);
        x.with(2);
        CHECK.due("alike is no twin", x.node(2, 0, 0), 0);
        x.with(1);
        CHECK.due("twin of 1", x.node(4, 0, 0), 1);
        CHECK.due("below a twin", x.with(2) + x.node(2, 0, 0), 4);
        CHECK.due("solve", x.solve(0, 500), FOUND);
        CHECK.due("taken", x.told(0, 1), 5);
        CHECK.due("closed below [1]", x.closed(1, 0, 0), 0);
    }

    private static void ties() {
        CrateHelpers x = new CrateHelpers();
        x.problem();
        x.variable(0, 2, 3);
        x.variable(0, 3, 3);
        x.cost(0, 0, 0, -3);
        x.cost(0, 0, 1, -3);
        x.cost(0, 1, 0, 1);
        CHECK.due("solve", x.solve(0, 500), FOUND);
        CHECK.due("taken: that of none, [0], [0, 1]", x.told(0, 1), 3);
        CHECK.due("of equal bounds the row that is ahead", x.walked(1, 1), 0);
        CHECK.due("last value", x.walked(2, 2), 1);
        CHECK.due("cost below 0", x.told(0, 4), -3);
    }

    private static void helpersTold() {
        CrateHelpers x = Samples.pair();
        CHECK.due("helper(4, 0)", x.helper(4, 0), 0);
        CHECK.due("helper(5, 0)", x.helper(5, 0), BAD);
        CHECK.due("helper(-1, 0)", x.helper(-1, 0), BAD);
        CHECK.due("helper(0, 3)", x.helper(0, 3), BAD);
        CHECK.due("helper(0, -1)", x.helper(0, -1), BAD);
        x.helpers(3);
        x.solve(0, 500);
        int idle = x.helper(2, 1);
        CHECK.due("idle of 2: that of none is not done yet", idle > 0 ? 1 : 0, 1);
        CHECK.due("all that is done", x.helper(0, 0) + x.helper(1, 0) + x.helper(2, 0), x.told(0, 2));
        x.solve(0, 500);
        CHECK.due("idle turns ever", x.helper(2, 1), 2 * idle);
        x.solve(0, 1);
        CHECK.due("done in what began latest", x.helper(0, 0), 0);
        CHECK.due("idle turns stay", x.helper(2, 1), 2 * idle);
    }

    private static void emptyProblem() {
        CrateHelpers x = new CrateHelpers();
        x.problem();
        CHECK.due("solve", x.solve(0, 500), FOUND);
        int[] told = {FOUND, 1, 1, 2, 0, 0};
        for (int i = 0; i < told.length; i++) {
            CHECK.due("told " + i, x.told(0, i), told[i]);
        }
        CHECK.due("answer", x.answer(0, 0), BAD);
        CHECK.due("closed", x.closed(0, 0, 0), NONE);
    }
}
