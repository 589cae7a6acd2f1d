/** Promises 8 to 12: helpers, their failures, the schedule and the limit. */
public final class HelpersTest {
    private static final int BAD = CrateHelpers.BAD, STATE = CrateHelpers.STATE;
    private static final Check CHECK = new Check("HelpersTest");

    public static void main(String[] args) {
        helpers();
        failures();
        schedule();
        scheduleOfHelpersThatAreNot();
        limit();
        whileUnderWay();
        farAhead();
        CHECK.end();
    }

    private static void helpers() {
        CrateHelpers x = Samples.pair();
        CHECK.due("helpers(5)", x.helpers(5), 1);
        CHECK.due("helpers(2)", x.helpers(2), 5);
        CHECK.due("helpers(0)", x.helpers(0), BAD);
        CHECK.due("helpers(6)", x.helpers(6), BAD);
        CHECK.due("count(2)", x.count(2), 2);
        CHECK.due("solve", x.solve(0, 500), CrateHelpers.FOUND);
        CHECK.due("turns of two", x.told(0, 3), 10);
        CHECK.due("done by two", x.told(0, 2), 4);
        CHECK.due("taken", x.told(0, 1), 3);
        CHECK.due("done by 0", x.helper(0, 0), 2);
        CHECK.due("done by 1", x.helper(1, 0), 2);
        CHECK.due("idle 0", x.helper(0, 1), 0);
        CHECK.due("idle 1", x.helper(1, 1), 1);
        CHECK.due("who did that of none", x.walked(0, 8), 0);
        CHECK.due("who did [1]", x.walked(1, 8), 1);
        CHECK.due("who did the answer", x.walked(2, 8), 1);
    }

    private static void failures() {
        CrateHelpers x = Samples.pair();
        CHECK.due("fail(1, 1) of one that is not", x.fail(1, 1), BAD);
        CHECK.due("fail(-1, 1)", x.fail(-1, 1), BAD);
        CHECK.due("fail(0, -1)", x.fail(0, -1), BAD);
        CHECK.due("fail(0, 201)", x.fail(0, 201), BAD);
        CHECK.due("fail(0, 200)", x.fail(0, 200), 1);
        CHECK.due("solve", x.solve(0, 500), CrateHelpers.FOUND);
        CHECK.due("turns without a failure", x.told(0, 3), 6);
        CHECK.due("fail(0, 2)", x.fail(0, 2), 1);
        CHECK.due("solve", x.solve(0, 500), CrateHelpers.FOUND);
        CHECK.due("turns with one", x.told(0, 3), 8);
        CHECK.due("done", x.told(0, 2), 3);
        CHECK.due("done under its number", x.helper(0, 0), 3);
        CHECK.due("replaced", x.helper(0, 2), 1);
        CHECK.due("solve again", x.solve(0, 500), CrateHelpers.FOUND);
        CHECK.due("replaced again", x.helper(0, 2), 2);
        CHECK.due("fail(0, 0)", x.fail(0, 0), 1);
        x.solve(0, 500);
        CHECK.due("not replaced", x.helper(0, 2), 2);
        x.fail(0, 1);
        x.helpers(1);
        x.solve(0, 500);
        CHECK.due("helpers() forgets failures", x.helper(0, 2), 2);
    }

    private static void schedule() {
        CrateHelpers x = Samples.pair();
        x.helpers(2);
        CHECK.due("turn(-1)", x.turn(-1), BAD);
        CHECK.due("turn(5)", x.turn(5), BAD);
        for (int i = 1; i <= 4; i++) {
            CHECK.due("turn(1)", x.turn(1), i);
        }
        CHECK.due("count(3)", x.count(3), 4);
        CHECK.due("solve(0, 4)", x.solve(0, 4), CrateHelpers.STOPPED);
        CHECK.due("done by 1", x.helper(1, 0), 2);
        CHECK.due("done by 0", x.helper(0, 0), 0);
        CHECK.due("solve goes on with 0", x.solve(0, 1), CrateHelpers.STOPPED);
        CHECK.due("and 1", x.solve(0, 1), CrateHelpers.STOPPED);
        CHECK.due("and 0", x.solve(0, 1), CrateHelpers.FOUND);
        CHECK.due("turns", x.told(0, 3), 7);
        CHECK.due("done by 0", x.helper(0, 0), 1);
        x.solve(0, 1);
        x.solve(0, 1);
        CHECK.due("the schedule begins again", x.helper(1, 0), 1);
        x.giveUp();
        CHECK.due("plain()", x.plain(), 4);
        CHECK.due("plain() again", x.plain(), 0);
        x.solve(0, 500);
        CHECK.due("turns without a schedule", x.told(0, 3), 10);
        for (int i = 1; i <= 200; i++) {
            x.turn(i % 5);
        }
        CHECK.due("turn() when full", x.turn(0), CrateHelpers.FULL);
        CHECK.due("turn(5) when full", x.turn(5), BAD);
        CHECK.due("plain()", x.plain(), 200);
    }

    private static void scheduleOfHelpersThatAreNot() {
        CrateHelpers x = Samples.pair();
        for (int i = 0; i < 6; i++) {
            x.turn(4);
        }
        CHECK.due("solve", x.solve(0, 500), CrateHelpers.FOUND);
        CHECK.due("turns", x.told(0, 3), 6);
        CHECK.due("done by 0", x.helper(0, 0), 3);
        CHECK.due("done by 4", x.helper(4, 0), 0);
        x.helpers(5);
        x.solve(0, 500);
        CHECK.due("done by 4 as it is there", x.helper(4, 0), 3);
        CHECK.due("done by 0 in the latest", x.helper(0, 0), 0);
    }

    private static void limit() {
        CrateHelpers x = Samples.pair();
        CHECK.due("limit(-1)", x.limit(-1), BAD);
        CHECK.due("limit(1001)", x.limit(1001), BAD);
        CHECK.due("limit(1000)", x.limit(1000), 0);
        CHECK.due("limit(2)", x.limit(2), 1000);
        CHECK.due("count(1)", x.count(1), 2);
        CHECK.due("solve", x.solve(0, 500), CrateHelpers.LIMITED);
        CHECK.due("taken", x.told(0, 1), 2);
        x.limit(3);
        CHECK.due("the last one is full", x.solve(0, 500), CrateHelpers.FOUND);
        CHECK.due("limit(0)", x.limit(0), 3);
        CHECK.due("solve", x.solve(0, 500), CrateHelpers.FOUND);
    }

    private static void whileUnderWay() {
        CrateHelpers x = Samples.pair();
        x.solve(0, 1);
        CHECK.due("helpers(2)", x.helpers(2), STATE);
        CHECK.due("helpers(6)", x.helpers(6), BAD);
        CHECK.due("fail(0, 1)", x.fail(0, 1), STATE);
        CHECK.due("fail(1, 1)", x.fail(1, 1), BAD);
        CHECK.due("turn(0)", x.turn(0), STATE);
        CHECK.due("turn(5)", x.turn(5), BAD);
        CHECK.due("plain()", x.plain(), STATE);
        CHECK.due("limit(1)", x.limit(1), STATE);
        CHECK.due("limit(1001)", x.limit(1001), BAD);
        CHECK.due("nothing changed", x.solve(0, 5), CrateHelpers.FOUND);
    }

    /** One helper keeps the node that the walk waits for, another goes ahead until thirty are done. */
    private static void farAhead() {
        CrateHelpers x = Samples.odd();
        x.helpers(2);
        for (int i = 0; i < 103; i++) {
            x.turn(i < 3 ? 0 : 1);
        }
        CHECK.due("solve", x.solve(0, 103), CrateHelpers.STOPPED);
        CHECK.due("done by 1", x.helper(1, 0), 30);
        CHECK.due("idle 1", x.helper(1, 1), 40);
        CHECK.due("done", x.count(6), 31);
        CHECK.due("taken", x.count(7), 1);
    }
}
