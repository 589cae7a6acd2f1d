/** The sentences of promises 26 to 29 that name a boundary: a test of its own for each; and the last of 512 calls. */
public final class TellingEdgesTest {
    private static final int BAD = CrateHelpers.BAD, STATE = CrateHelpers.STATE, NONE = CrateHelpers.NONE;
    private static final int REFUSED = -1000000;
    private static final int LEAST = Integer.MIN_VALUE, MOST = Integer.MAX_VALUE;
    private static final Check CHECK = new Check("TellingEdgesTest");

    public static void main(String[] args) {
        countWhat();
        countOfTheMost();
        countWithoutASolving();
        countToTheLastTurn();
        countOfKnownOnes();
        aboutWhat();
        aboutRules();
        aboutVariables();
        aboutNumbersThatAreNotAskedFor();
        aboutOfAnEmptyProblem();
        aboutWhileUnderWay();
        costsOfEachValue();
        costsOfWhatIsNot();
        statusAtFirst();
        statusOfEachRefusal();
        statusBehindOtherCalls();
        lastOfAllCalls();
        CHECK.end();
    }

    private static Run run(String name, String calls) {
        return new Run(CHECK, name).make(calls);
    }

    private static Run pair(String name) {
        return run(name, Samples.PAIR);
    }

    // ---- promise 26

    private static void countWhat() {
        Run r = pair("count 0 .. 7").make("solve(0, 3)");
        r.badBeside("count(#)", 0, 7);
        r.dueOfEach("count(#)", 0, 1, 0, 1, 0, 0, 3, 1, 1);
    }

    private static void countOfTheMost() {
        Run r = run("all that there is at most", "problem()").times(4, "problem()").times(200, "turn(4)").make("helpers(5); limit(1000); solve(4, 1)");
        r.dueOfEach("count(#)", 0, 5, 1000, 5, 200, 4, 1, 0, 0);
        r.make("problem(); turn(0); helpers(1); limit(0)");
        r.dueOfEach("count(#)", 0, 5, 1000, 5, 200, 4, 1, 0, 0);
    }

    private static void countWithoutASolving() {
        Run r = pair("5, 6, 7: 0 without");
        r.dueOfEach("count(#)", 4, NONE, 0, 0, 0);
        r.make("solve(0, 500)");
        r.dueOfEach("count(#)", 4, NONE, 0, 0, 0);
        r.make("solve(0, 5); giveUp()");
        r.dueOfEach("count(#)", 4, NONE, 0, 0, 0);
    }

    private static void countToTheLastTurn() {
        Run r = run("to the last turn", Samples.ODD);
        r.due("solve(0, 1)", CrateHelpers.STOPPED);
        r.dueOfEach("count(#)", 4, 0, 1, 0, 0);
        r.due("solve(0, 1)", CrateHelpers.STOPPED);
        r.dueOfEach("count(#)", 4, 0, 7, 1, 1);
        r.due("solve(0, 497)", CrateHelpers.STOPPED);
        r.dueOfEach("count(#)", 6, 249, 249);
        r.due("solve(0, 1)", CrateHelpers.LARGE);
        r.dueOfEach("count(#)", 4, NONE, 0, 0, 0);
    }

    private static void countOfKnownOnes() {
        // Those below a node are known, open or not; below a full one there are none.
        Run r = pair("nodes that are known").make("solve(0, 4)");
        r.dueOfEach("count(#)", 5, 5, 2, 2);
        Run full = pair("below a full one").make("helpers(2); turn(0); turn(0); turn(0)").times(4, "turn(1)").make("solve(0, 7)");
        // 0 has [1]; 1 did [0] and the full [0, 1].
        full.dueOfEach("count(#)", 5, 5, 3, 1);
        full.due("helper(1, 0)", 2);
    }

    // ---- promise 27

    private static void aboutWhat() {
        Run r = pair("about 0 .. 6");
        r.badBeside("about(0, #, 0)", 0, 6);
        r.dueOfEach("about(0, #, 0)", 0, 2, 1, 4, 0, 2, 2, 3);
        r.due("status()", 0);
    }

    private static void aboutRules() {
        Run r = run("about() of a rule", "problem(); variable(0, 2, 0)").times(7, "rule(0, 1, 5)").make("rule(0, 7, -1000); part(0, 7, 0, 0)");
        r.dueOfEach("about(0, #, 7)", 2, 7, -1000, 1);
        r.dueOfEach("about(0, #, 0)", 2, 1, 5, 0);
        for (int what = 2; what <= 4; what++) {
            r.badBeside("about(0, " + what + ", #)", 0, 7);
        }
    }

    private static void aboutVariables() {
        Run r = run("about() of a variable", "problem(); variable(0, 1, 0); variable(0, 2, 1); variable(0, 3, 2); variable(0, 4, 3); variable(0, 5, 0); variable(0, 6, 1)");
        r.dueOfEach("about(0, 5, #)", 0, 1, 2, 3, 4, 5, 6);
        r.dueOfEach("about(0, 6, #)", 0, 0, 1, 2, 3, 0, 1);
        r.badBeside("about(0, 5, #)", 0, 5);
        r.badBeside("about(0, 6, #)", 0, 5);
    }

    private static void aboutNumbersThatAreNotAskedFor() {
        Run r = pair("about() of the problem");
        for (int i : new int[] {-1, 2, LEAST, MOST}) {
            r.due("about(0, 0, " + i + ")", 2);
            r.due("status()", 0);
            r.due("about(0, 1, " + i + ")", 1);
            r.due("status()", 0);
        }
    }

    private static void aboutOfAnEmptyProblem() {
        Run r = run("about() of an empty problem", "problem()");
        r.due("about(0, 0, 0)", 0);
        r.due("about(0, 1, 0)", 0);
        for (int what = 2; what <= 6; what++) {
            r.refused("about(0, " + what + ", 0)", BAD);
        }
    }

    private static void aboutWhileUnderWay() {
        Run r = pair("about() while under way").make("solve(0, 1)");
        r.dueOfEach("about(0, #, 0)", 0, 2, 1, 4, 0, 2, 2, 3);
        r.due("costs(0, 1, 1)", 5);
        r.due("status()", 0);
        r.refused("about(0, 7, 0)", BAD);
        r.refused("costs(0, 0, 2)", BAD);
    }

    // ---- promise 28

    private static void costsOfEachValue() {
        Run r = run("costs() of the first and the last value", "problem(); variable(0, 1, 3); variable(0, 6, 3)").times(4, "variable(0, 6, 3)");
        r.make("cost(0, 0, 0, -100000); cost(0, 1, 5, 100000); cost(0, 5, 5, 3)");
        r.due("costs(0, 0, 0)", -100000);
        r.dueOfEach("costs(0, 1, #)", 0, 0, 0, 0, 0, 0, 100000);
        r.due("costs(0, 5, 5)", 3);
        r.badBeside("costs(0, 0, #)", 0, 0);
        r.badBeside("costs(0, 5, #)", 0, 5);
    }

    private static void costsOfWhatIsNot() {
        Run r = pair("costs() of what is not");
        r.badBeside("costs(0, #, 0)", 0, 1);
        r.badBeside("costs(#, 0, 0)", 0, 0);
        Run empty = run("costs() without variables", "problem()");
        empty.refused("costs(0, 0, 0)", BAD);
    }

    // ---- promise 29

    private static void statusAtFirst() {
        Run r = new Run(CHECK, "status() at first");
        r.due("status()", 0);
        r.make("variable(0, 0, 0); giveUp(); solve(0, 0)");
        r.due("status()", 0);
    }

    private static void statusOfEachRefusal() {
        String[] bad = {"cost(0, 0, 0, 100001)", "number(0, 1, 0)", "about(0, 7, 0)", "costs(0, 0, 2)"};
        String[] fine = {"cost(0, 0, 0, 0)", "number(0, 0, 0)", "about(0, 0, 0)", "costs(0, 0, 0)"};
        String[] late = {"cost(0, 0, 0, 0)", "number(0, 0, 0)"};
        for (String call : bad) {
            for (String other : fine) {
                Run r = pair("status() of " + call);
                r.due(call, REFUSED);
                r.due("status()", BAD);
                r.due("status()", BAD);
                r.make(other);
                r.due("status()", 0);
            }
            for (String other : late) {
                Run r = pair("status() of " + other).make("solve(0, 1)");
                r.due(other, REFUSED);
                r.due("status()", STATE);
                r.due(call, REFUSED);
                r.due("status()", BAD);
                r.due(other, REFUSED);
                r.due("status()", STATE);
            }
        }
    }

    /** Every call but the four that status() tells of, refused and not. */
    private static final String OTHERS = "problem(); variable(0, 1, 0); variable(0, 0, 0); rule(0, 4, 0); rule(0, 8, 0); part(0, 1, 0, 1); "
        + "part(0, 1, 0, 51); part(0, 1, 0, 1); helpers(2); helpers(0); fail(0, 1); fail(2, 1); turn(0); turn(5); plain(); limit(5); limit(-1); "
        + "solve(0, 1); solve(0, 0); solve(1, 1); plain(); giveUp(); giveUp(); told(0, 0); told(0, 6); answer(0, 0); answer(0, 6); walked(0, 0); "
        + "walked(0, 10); closed(0, 0, 0); closed(0, 0, 2); helper(0, 0); helper(5, 0); ask(0); ask(9); with(0); with(9); node(2, 0, 0); "
        + "node(5, 0, 0); second(0, 0); second(0, 61); row(0); row(6); same(0, 1); same(0, 0); count(0); count(8)";

    private static void statusBehindOtherCalls() {
        Run bad = pair("status() behind other calls").make("costs(0, 2, 0)");
        Run fine = pair("status() behind other calls").make("costs(0, 0, 0)");
        for (String call : OTHERS.split("; ")) {
            bad.make(call);
            bad.due("status()", BAD);
            fine.make(call);
            fine.due("status()", 0);
        }
    }

    // ---- at most 512 calls

    private static void lastOfAllCalls() {
        Run r = pair("the 512th call").times(Run.MOST_CALLS - 11, "cost(0, 0, 0, 3)");
        r.due("solve(0, 5)", CrateHelpers.STOPPED);
        r.due("solve(0, 1)", CrateHelpers.FOUND);
        r.due("answer(0, 0)", 1);
    }
}
