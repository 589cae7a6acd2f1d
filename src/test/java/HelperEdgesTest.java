/** The sentences of promises 8 to 12, and of the third terms, that name a boundary: a test of its own for each. */
public final class HelperEdgesTest {
    private static final int BAD = CrateHelpers.BAD, STATE = CrateHelpers.STATE, FULL = CrateHelpers.FULL;
    private static final int STOPPED = CrateHelpers.STOPPED, FOUND = CrateHelpers.FOUND, LARGE = CrateHelpers.LARGE;
    private static final Check CHECK = new Check("HelperEdgesTest");

    public static void main(String[] args) {
        oneToFiveHelpers();
        helpersForgetFailures();
        helpersWhileUnderWay();
        failOfFirstAndLastHelper();
        failAtZeroToTwoHundred();
        failAtNone();
        failAtTheFirst();
        failAtTheLastThatItHas();
        failAtTheTwoHundredth();
        failWhileUnderWay();
        failedNodeIsAsNotTaken();
        turnOfZeroToFour();
        twoHundredTurns();
        turnRefusals();
        turnOfOneThatIsNot();
        turnOfOneThatComesLater();
        scheduleToItsLastTurn();
        turnsBehindTheSchedule();
        emptySchedule();
        plainWhileUnderWay();
        limitBounds();
        limitWhileUnderWay();
        limitOfSolvingsThatBeginLater();
        idleWithoutANode();
        thirtyAhead();
        thirtyAheadForGood();
        moreThanThirtyAhead();
        noNodeBehindTheEnd();
        CHECK.end();
    }

    private static Run run(String name, String calls) {
        return new Run(CHECK, name).make(calls);
    }

    private static Run pair(String name) {
        return run(name, Samples.PAIR);
    }

    // ---- promise 8

    private static void oneToFiveHelpers() {
        Run r = pair("n 1 .. 5").make("helpers(3); fail(2, 1); fail(0, 2)");
        r.badBeside("helpers(#)", 1, 5);
        r.due("helpers(1)", 3);
        r.due("helpers(5)", 1);
        r.due("helpers(5)", 5);
        r.due("count(2)", 5);
    }

    private static void helpersForgetFailures() {
        Run r = pair("none is to fail").make("helpers(2); fail(0, 1); fail(1, 1); helpers(2)");
        r.due("solve(0, 500)", FOUND);
        r.due("helper(0, 2)", 0);
        r.due("helper(1, 2)", 0);
        // A number that goes and comes again has no failure left over.
        r.make("fail(1, 1); helpers(1); helpers(2); solve(0, 500)");
        r.due("helper(1, 2)", 0);
    }

    private static void helpersWhileUnderWay() {
        Run r = pair("helpers() while under way").make("helpers(2); fail(0, 1); solve(0, 1)");
        r.refused("helpers(2)", STATE);
        r.refused("helpers(5)", STATE);
        r.refused("helpers(0)", BAD);
        r.refused("helpers(6)", BAD);
    }

    // ---- promise 9

    private static void failOfFirstAndLastHelper() {
        for (int n = 1; n <= 5; n++) {
            Run r = pair("fail() with helpers " + n).make("helpers(" + n + ")");
            r.badBeside("fail(#, 1)", 0, n - 1);
            r.due("fail(0, 1)", 1);
            r.due("fail(" + (n - 1) + ", 1)", 1);
        }
    }

    private static void failAtZeroToTwoHundred() {
        Run r = pair("k 0 .. 200").make("fail(0, 2)");
        r.badBeside("fail(0, #)", 0, 200);
        r.due("fail(0, 200)", 1);
        r.due("fail(0, 0)", 1);
        r.due("fail(0, 1)", 1);
    }

    private static void failAtNone() {
        Run r = pair("fail(0, 0)").make("fail(0, 1); fail(0, 0)");
        r.due("solve(0, 500)", FOUND);
        r.due("told(0, 3)", 6);
        r.due("helper(0, 2)", 0);
    }

    private static void failAtTheFirst() {
        Run r = pair("fail(0, 1)").make("fail(0, 1)");
        r.due("solve(0, 1)", STOPPED);
        r.due("helper(0, 2)", 0);
        r.due("solve(0, 1)", STOPPED);
        r.due("helper(0, 2)", 1);
        // The one in its place does not fail at its own first.
        r.due("solve(0, 2)", STOPPED);
        r.due("helper(0, 0)", 1);
        r.due("solve(0, 500)", FOUND);
        r.due("told(0, 3)", 8);
        r.due("told(0, 2)", 3);
        r.due("helper(0, 2)", 1);
        r.due("solve(0, 500)", FOUND);
        r.due("helper(0, 2)", 2);
    }

    private static void failAtTheLastThatItHas() {
        Run r = pair("fail(0, 3)").make("fail(0, 3)");
        r.due("solve(0, 500)", FOUND);
        r.due("told(0, 3)", 8);
        r.due("helper(0, 2)", 1);
        Run beyond = pair("fail(0, 4)").make("fail(0, 4)");
        beyond.due("solve(0, 500)", FOUND);
        beyond.due("told(0, 3)", 6);
        beyond.due("helper(0, 2)", 0);
    }

    private static void failAtTheTwoHundredth() {
        Run r = run("fail(0, 200)", Samples.ODD).make("fail(0, 200)");
        r.due("solve(0, 399)", STOPPED);
        r.due("count(6)", 199);
        r.due("helper(0, 2)", 0);
        r.due("solve(0, 1)", STOPPED);
        r.due("count(6)", 199);
        r.due("helper(0, 2)", 1);
        r.due("solve(0, 101)", STOPPED);
        r.due("solve(0, 1)", LARGE);
        r.due("told(0, 3)", 502);
        r.due("helper(0, 0)", 250);
    }

    private static void failWhileUnderWay() {
        Run r = pair("fail() while under way").make("helpers(2); solve(0, 1)");
        r.refused("fail(0, 1)", STATE);
        r.refused("fail(1, 0)", STATE);
        r.refused("fail(2, 1)", BAD);
        r.refused("fail(-1, 1)", BAD);
        r.refused("fail(0, -1)", BAD);
        r.refused("fail(0, 201)", BAD);
    }

    private static void failedNodeIsAsNotTaken() {
        Run r = pair("the node is as if it had not been taken").make("helpers(2); fail(1, 1); turn(1); turn(0); turn(1)");
        r.due("solve(0, 3)", STOPPED);
        r.due("helper(0, 1)", 1);
        r.due("helper(1, 2)", 1);
        r.dueOfEach("count(#)", 5, 1, 0, 0);
        // 0 takes that of none now, 1 finds none.
        r.due("solve(0, 2)", STOPPED);
        r.due("helper(1, 1)", 1);
        r.due("solve(0, 1)", STOPPED);
        r.due("helper(0, 0)", 1);
        r.due("helper(1, 0)", 0);
        r.dueOfEach("count(#)", 5, 3, 1, 1);
        r.due("solve(0, 500)", FOUND);
        r.due("walked(0, 8)", 0);
        r.due("helper(1, 2)", 1);
    }

    // ---- promise 10

    private static void turnOfZeroToFour() {
        Run r = pair("turns of 0 .. 4");
        r.badBeside("turn(#)", 0, 4);
        r.due("turn(0)", 1);
        r.due("turn(4)", 2);
        r.badBeside("turn(#)", 0, 4);
        r.due("count(3)", 2);
    }

    private static void twoHundredTurns() {
        Run r = pair("200 turns");
        r.dueFrom(1, 200, "turn(0)");
        r.refused("turn(0)", FULL);
        r.refused("turn(4)", FULL);
        r.due("count(3)", 200);
        r.due("plain()", 200);
        r.due("turn(3)", 1);
    }

    private static void turnRefusals() {
        Run full = pair("turn(), full").times(200, "turn(0)");
        full.refused("turn(5)", BAD);
        full.refused("turn(-1)", BAD);
        full.due("solve(0, 1)", STOPPED);
        full.refused("turn(0)", STATE);
        full.refused("turn(5)", BAD);
        Run r = pair("turn() while under way").make("turn(0); solve(0, 1)");
        r.refused("turn(0)", STATE);
        r.refused("turn(-1)", BAD);
    }

    private static void turnOfOneThatIsNot() {
        Run r = pair("a turn of one that is not there").make("helpers(2); turn(2); turn(4); turn(1)");
        r.due("solve(0, 2)", STOPPED);
        r.due("helper(0, 0)", 1);
        r.dueOfEach("helper(#, 1)", 0, 0, 0, 0, 0, 0);
        r.due("solve(0, 1)", STOPPED);
        r.due("helper(1, 1)", 0);
        // 0 takes one, then 1 does the one that it has.
        r.due("solve(0, 2)", STOPPED);
        r.due("helper(1, 0)", 1);
        r.due("helper(2, 0)", 0);
    }

    private static void turnOfOneThatComesLater() {
        Run r = pair("a turn of one that comes later").make("turn(4); turn(4); helpers(5)");
        r.due("solve(0, 2)", STOPPED);
        r.due("helper(4, 0)", 1);
        r.due("helper(0, 0)", 0);
        r.due("giveUp()", 0);
        r.make("helpers(4); solve(0, 2)");
        r.due("helper(4, 0)", 0);
        r.due("helper(0, 0)", 1);
    }

    private static void scheduleToItsLastTurn() {
        Run r = run("a schedule of 200 turns", Samples.ODD).make("helpers(2)").times(200, "turn(1)");
        r.due("solve(0, 200)", STOPPED);
        r.due("helper(1, 0)", 100);
        r.due("helper(0, 0)", 0);
        r.due("count(7)", 100);
        // From the 201st on: 0 takes one, 1 takes one, 0 does its own.
        r.due("solve(0, 2)", STOPPED);
        r.due("helper(0, 0)", 0);
        r.due("solve(0, 1)", STOPPED);
        r.due("helper(0, 0)", 1);
        r.due("helper(1, 0)", 100);
    }

    private static void turnsBehindTheSchedule() {
        Run r = pair("then 0, 1, .. n - 1").make("helpers(3); turn(2)");
        r.due("solve(0, 1)", STOPPED);
        r.due("solve(0, 1)", STOPPED);
        r.dueOfEach("helper(#, 1)", 0, 1, 0, 0);
        r.due("solve(0, 1)", STOPPED);
        r.dueOfEach("helper(#, 1)", 0, 1, 1, 0);
        r.due("solve(0, 1)", STOPPED);
        r.due("helper(2, 0)", 1);
    }

    // ---- promise 11

    private static void emptySchedule() {
        Run r = pair("plain()");
        r.due("plain()", 0);
        r.make("turn(1)");
        r.due("plain()", 1);
        r.due("plain()", 0);
        r.due("count(3)", 0);
        r.make("helpers(2); turn(1); plain(); solve(0, 2)");
        r.due("helper(1, 1)", 1);
    }

    private static void plainWhileUnderWay() {
        Run r = pair("plain() while under way").make("helpers(2); turn(1); turn(1); solve(0, 1)");
        r.refused("plain()", STATE);
        Run none = pair("plain() without a schedule").make("solve(0, 1)");
        none.refused("plain()", STATE);
    }

    // ---- promise 12

    private static void limitBounds() {
        Run r = pair("limit 0 .. 1000").make("limit(2)");
        r.badBeside("limit(#)", 0, 1000);
        r.due("limit(1000)", 2);
        r.due("limit(0)", 1000);
        r.due("limit(1)", 0);
        r.due("count(1)", 1);
    }

    private static void limitWhileUnderWay() {
        Run r = pair("limit() while under way").make("limit(2); solve(0, 1)");
        r.refused("limit(0)", STATE);
        r.refused("limit(1)", STATE);
        r.refused("limit(-1)", BAD);
        r.refused("limit(1001)", BAD);
    }

    private static void limitOfSolvingsThatBeginLater() {
        Run r = pair("solvings that begin later").make("solve(0, 500); limit(1)");
        r.due("told(0, 0)", FOUND);
        r.due("told(0, 1)", 3);
        r.due("solve(0, 500)", CrateHelpers.LIMITED);
    }

    // ---- the third terms

    private static void idleWithoutANode() {
        Run r = pair("there is none to take").make("helpers(5)");
        r.due("solve(0, 5)", STOPPED);
        r.dueOfEach("helper(#, 1)", 0, 0, 1, 1, 1, 1);
        // That of none is done: 1 and 2 take what is below it, for 3 and 4 there is none.
        r.due("solve(0, 5)", STOPPED);
        r.dueOfEach("helper(#, 1)", 0, 0, 1, 1, 2, 2);
        r.due("count(6)", 1);
    }

    /** That of none is done, 0 has [0], which the walk waits for; what is below [0] is dearer than all else. */
    private static Run waiting(String name) {
        Run r = run(name, "problem()").times(6, "variable(0, 6, 3)");
        r.make("rule(0, 2, 6); part(0, 0, 0, 10); part(0, 0, 1, 1); part(0, 0, 2, 1)");
        r.make("rule(0, 3, 15); part(0, 1, 3, 2); part(0, 1, 4, 2); part(0, 1, 5, 2)");
        for (int value = 2; value < 6; value++) {
            r.make("cost(0, 1, " + value + ", 9); cost(0, 2, " + value + ", 9)");
        }
        return r.make("helpers(2); turn(0); turn(0); turn(0)");
    }

    private static void thirtyAhead() {
        Run r = waiting("30 are done that the walk has not taken").times(61, "turn(1)").make("turn(0); turn(1)");
        r.due("solve(0, 61)", STOPPED);
        r.dueOfEach("count(#)", 6, 30, 1);
        r.due("solve(0, 1)", STOPPED);
        r.due("helper(1, 1)", 0);
        r.due("solve(0, 1)", STOPPED);
        r.dueOfEach("count(#)", 6, 31, 1);
        r.due("solve(0, 1)", STOPPED);
        r.due("helper(1, 1)", 1);
        r.due("helper(1, 0)", 30);
        // [0] is done: the walk takes it and the thirty behind it, and 1 takes a node again.
        r.due("solve(0, 1)", STOPPED);
        r.dueOfEach("count(#)", 6, 32, 32);
        r.due("solve(0, 1)", STOPPED);
        r.due("helper(1, 1)", 1);
    }

    /** The walk comes to a node that no helper has, while thirty others are done: no turn is other than idle then. */
    private static void thirtyAheadForGood() {
        Run r = run("30 are done, and the next one is had by none", Samples.ODD).make("helpers(2)");
        r.times(3, "turn(0)").times(60, "turn(1)").make("turn(0)");
        r.due("solve(0, 64)", STOPPED);
        r.dueOfEach("count(#)", 6, 32, 2);
        r.due("solve(0, 500)", STOPPED);
        r.dueOfEach("count(#)", 6, 32, 2);
        r.due("helper(0, 1)", 250);
        r.due("helper(1, 1)", 250);
        r.due("giveUp()", 0);
    }

    private static void moreThanThirtyAhead() {
        Run r = run("those that have a node may do it", Samples.ODD).make("helpers(5)");
        r.times(3, "turn(0)").times(58, "turn(1)").times(3, "turn(1); turn(2); turn(3); turn(4)");
        r.due("solve(0, 61)", STOPPED);
        r.dueOfEach("count(#)", 6, 30, 1);
        r.due("solve(0, 4)", STOPPED);
        r.dueOfEach("helper(#, 1)", 0, 0, 0, 0, 0, 0);
        r.due("solve(0, 4)", STOPPED);
        r.dueOfEach("count(#)", 6, 34, 1);
        r.due("solve(0, 4)", STOPPED);
        r.dueOfEach("helper(#, 1)", 0, 0, 1, 1, 1, 1);
        r.dueOfEach("helper(#, 0)", 0, 1, 30, 1, 1, 1);
        r.dueOfEach("count(#)", 6, 34, 1);
    }

    private static void noNodeBehindTheEnd() {
        Run r = pair("helpers then have no node").make("helpers(2)");
        r.due("solve(0, 500)", FOUND);
        int idle = r.answer("helper(1, 1)");
        r.due("solve(0, 2)", STOPPED);
        r.due("helper(1, 1)", idle + 1);
        r.dueOfEach("count(#)", 5, 1, 0, 0);
        r.due("giveUp()", 0);
        r.due("solve(0, 2)", STOPPED);
        r.due("helper(1, 1)", idle + 2);
        r.dueOfEach("count(#)", 5, 1, 0, 0);
    }
}
