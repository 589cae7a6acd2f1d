/** The sentences of promises 20 to 25 that name a boundary: a test of its own for each. */
public final class QuestionEdgesTest {
    private static final int BAD = CrateHelpers.BAD, STATE = CrateHelpers.STATE, NONE = CrateHelpers.NONE;
    private static final int NO_COST = -1000000, TOO_FAR = -1000001;
    private static final int LEAST = Integer.MIN_VALUE, MOST = Integer.MAX_VALUE;
    private static final Check CHECK = new Check("QuestionEdgesTest");

    public static void main(String[] args) {
        askOfEachProblem();
        askBeginsAnew();
        refusedAskLeavesTheNode();
        withWithoutAsk();
        withFirstAndLastValue();
        withAllSet();
        withWithoutVariables();
        withWhileUnderWay();
        nodeWhat();
        nodeWithoutAsk();
        nodeOfEachRule();
        nodeOfEachVariableAndValue();
        nodeOfOneThatIsSet();
        numbersThatAreNotAskedFor();
        nodeBehindEachChange();
        nodeBehindOtherCalls();
        nodeBehindAChangeInTheOrderOfRefusals();
        noBoundOfWhatIsNotOpen();
        nodeWhateverThoseAboveAre();
        secondOfZeroToSixty();
        secondOfTheLastRow();
        secondOfTheSixtieth();
        secondAtTwoHundredAndFifty();
        secondWhereNoneIsLeft();
        secondWithoutVariables();
        secondWhereNoneIsOpen();
        secondIsNoSolving();
        secondByCostThenByRows();
        rowOfEachVariable();
        rowWhereNoneWasFound();
        sameOfOneToFive();
        sameRefusals();
        sameLeavesWhatIsTold();
        CHECK.end();
    }

    private static Run run(String name, String calls) {
        return new Run(CHECK, name).make(calls);
    }

    private static Run pair(String name) {
        return run(name, Samples.PAIR);
    }

    // ---- promise 20

    private static void askOfEachProblem() {
        Run r = run("ask() of each problem", "problem(); problem(); problem(); problem(); problem()").times(6, "variable(4, 2, 0)");
        r.due("ask(0)", 0);
        r.due("ask(4)", 6);
        r.badBeside("ask(#)", 0, 4);
    }

    private static void askBeginsAnew() {
        Run r = pair("becomes that of none").make("ask(0); with(1); with(1)");
        r.due("node(2, 0, 0)", 1);
        r.due("ask(0)", 2);
        r.due("node(2, 0, 0)", 0);
        r.due("with(0)", 1);
    }

    private static void refusedAskLeavesTheNode() {
        Run r = pair("a refused ask()").make("ask(0); with(1)");
        r.badBeside("ask(#)", 0, 0);
        r.make("ask(1)");
        r.due("node(3, 0, 0)", 1);
        r.due("with(0)", 2);
    }

    // ---- promise 21

    private static void withWithoutAsk() {
        Run r = pair("no ask() was");
        r.refusedOfEach("with(#)", BAD, 0, 1, 2, -1, LEAST, MOST);
        r.make("ask(1)");
        r.refused("with(0)", BAD);
    }

    private static void withFirstAndLastValue() {
        Run r = run("the variable has none such", "problem(); variable(0, 1, 0); variable(0, 6, 0); variable(0, 6, 0); ask(0)");
        r.badBeside("with(#)", 0, 0);
        r.due("with(0)", 1);
        r.badBeside("with(#)", 0, 5);
        r.due("with(0)", 2);
        r.badBeside("with(#)", 0, 5);
        r.due("with(5)", 3);
    }

    private static void withAllSet() {
        Run r = run("all are set", "problem()").times(6, "variable(0, 2, 0)").make("ask(0)");
        r.dueFrom(1, 6, "with(1)");
        r.refusedOfEach("with(#)", BAD, 0, 1, -1, LEAST, MOST);
        r.due("node(2, 0, 0)", 0);
    }

    private static void withWithoutVariables() {
        Run r = run("with() without variables", "problem(); ask(0)");
        r.refused("with(0)", BAD);
        r.due("node(2, 0, 0)", 0);
        r.due("node(3, 0, 0)", 0);
    }

    private static void withWhileUnderWay() {
        Run r = pair("questions while a solving is under way").make("solve(0, 3)");
        r.due("ask(0)", 2);
        r.due("with(1)", 1);
        r.due("node(3, 0, 0)", 1);
        r.due("count(6)", 1);
        r.due("solve(0, 3)", CrateHelpers.FOUND);
    }

    // ---- promise 22

    private static void nodeWhat() {
        Run r = pair("node 0 .. 4").make("ask(0)");
        r.badBeside("node(#, 0, 0)", 0, 4);
        r.dueOfEach("node(#, 0, 0)", 0, 0, 0, 0, 0, NONE);
    }

    private static void nodeWithoutAsk() {
        Run r = pair("node() without ask()");
        r.refusedOfEach("node(#, 0, 0)", STATE, 0, 1, 2, 3, 4);
        r.badBeside("node(#, 0, 0)", 0, 4);
        r.refused("node(0, 9, 9)", STATE);
        r.refused("node(1, 9, 9)", STATE);
    }

    private static void nodeOfEachRule() {
        Run r = run("node() of each rule", "problem(); ask(0)");
        r.refused("node(0, 0, 0)", BAD);
        r.times(7, "rule(0, 0, 0)").make("rule(0, 0, -1); ask(0)");
        r.due("node(0, 0, 0)", 0);
        r.due("node(0, 7, 0)", 1);
        r.badBeside("node(0, #, 0)", 0, 7);
    }

    private static void nodeOfEachVariableAndValue() {
        Run r = run("node() of each value", "problem(); variable(0, 1, 0); variable(0, 6, 0); rule(0, 1, 4); part(0, 0, 1, 1); ask(0)");
        r.dueOfEach("node(1, 1, #)", 0, 0, 0, 0, 0, 0, 1);
        r.due("node(1, 0, 0)", 0);
        r.badBeside("node(1, #, 0)", 0, 1);
        r.badBeside("node(1, 0, #)", 0, 0);
        r.badBeside("node(1, 1, #)", 0, 5);
        Run none = run("node() without variables", "problem(); ask(0)");
        none.refused("node(1, 0, 0)", BAD);
    }

    private static void nodeOfOneThatIsSet() {
        Run r = pair("of one that is set: 0").make("ask(0); with(1); with(1)");
        r.dueOfEach("node(1, 0, #)", 0, 0, 0);
        r.dueOfEach("node(1, 1, #)", 0, 0, 0);
        r.badBeside("node(1, 0, #)", 0, 1);
    }

    private static void numbersThatAreNotAskedFor() {
        Run r = pair("numbers that are not asked for").make("ask(0); with(1)");
        for (int n : new int[] {-1, 99, LEAST, MOST}) {
            r.leaves("node(0, 0, " + n + ")", 0);
            r.leaves("node(2, " + n + ", " + n + ")", 0);
            r.leaves("node(3, " + n + ", " + n + ")", 1);
            r.leaves("node(4, " + n + ", " + n + ")", NONE);
        }
    }

    private static void nodeBehindEachChange() {
        String[] changes = {"variable(0, 1, 0)", "cost(0, 0, 0, 0)", "rule(0, 4, 0)", "part(0, 1, 0, 0)", "number(0, 0, 0)"};
        for (String change : changes) {
            Run r = pair("its problem changed by " + change).make("rule(0, 4, 0); ask(0); with(1)");
            r.due("node(2, 0, 0)", 0);
            r.make(change);
            r.refusedOfEach("node(#, 0, 0)", STATE, 0, 1, 2, 3, 4);
            r.make("ask(0)");
            r.due("node(2, 0, 0)", 0);
        }
    }

    private static void nodeBehindOtherCalls() {
        Run r = pair("its problem did not change").make("ask(0); with(1); problem(); variable(1, 1, 0); cost(1, 0, 0, 3); rule(1, 0, 0)");
        r.make("helpers(3); fail(0, 1); turn(1); limit(2); solve(0, 500); second(0, 0); same(0, 2); plain(); solve(0, 1); giveUp()");
        r.make("cost(0, 0, 0, 100001); part(0, 0, 0, 0); variable(0, 7, 0); rule(0, 8, 0); number(0, 0, 1001)");
        r.due("node(2, 0, 0)", 0);
        r.due("node(3, 0, 0)", 1);
    }

    private static void nodeBehindAChangeInTheOrderOfRefusals() {
        Run r = pair("bad of what, then state").make("ask(0); cost(0, 0, 0, 0)");
        r.badBeside("node(#, 0, 0)", 0, 4);
        r.refused("node(0, 1, 0)", STATE);
        r.refused("node(1, 2, 0)", STATE);
        r.refused("node(1, 0, 2)", STATE);
    }

    private static void noBoundOfWhatIsNotOpen() {
        Run out = pair("out by a rule").make("ask(0); with(1); with(1)");
        out.dueOfEach("node(#, 0, 0)", 2, 1, NO_COST, 0);
        Run twin = run("a twin", "problem(); variable(0, 2, 0); variable(0, 2, 0); ask(0); with(1); with(0)");
        twin.dueOfEach("node(#, 0, 0)", 2, 2, NO_COST, 0);
        Run without = run("without a way", Samples.CRAMPED).make("ask(0); with(0)");
        without.dueOfEach("node(#, 0, 0)", 2, 3, NO_COST, 1);
        Run open = pair("open").make("ask(0); with(1); with(0)");
        open.dueOfEach("node(#, 0, 0)", 2, 0, 1, NONE);
    }

    private static void nodeWhateverThoseAboveAre() {
        // [1, 0] is a twin; what is below it is open all the same.
        Run twin = run("below a twin", "problem(); variable(0, 2, 0); variable(0, 2, 0); variable(0, 3, 0); ask(0); with(1); with(0)");
        twin.due("node(2, 0, 0)", 2);
        twin.make("with(2)");
        twin.due("node(2, 0, 0)", 0);
        twin.due("node(3, 0, 0)", 0);
        Run without = run("below one without a way", Samples.CRAMPED).make("variable(0, 1, 0); ask(0); with(0)");
        without.due("node(2, 0, 0)", 3);
        without.make("with(0)");
        without.due("node(2, 0, 0)", 1);
    }

    // ---- promise 23

    private static void secondOfZeroToSixty() {
        Run r = pair("k 0 .. 60").make("second(0, 1)");
        r.badBeside("second(0, #)", 0, 60);
        r.badBeside("second(#, 0)", 0, 0);
        r.due("row(0)", 0);
        r.due("second(0, 0)", 1);
        r.due("second(0, 60)", NO_COST);
    }

    private static void secondOfTheLastRow() {
        Run r = pair("two rows");
        r.due("second(0, 0)", 1);
        r.dueOfEach("row(#)", 0, 1, 0);
        r.due("second(0, 1)", 5);
        r.dueOfEach("row(#)", 0, 0, 1);
        r.due("second(0, 2)", NO_COST);
        r.dueOfEach("row(#)", 0, NONE, NONE);
    }

    private static void secondOfTheSixtieth() {
        Run sixty = run("60 rows", "problem(); variable(0, 2, 3); variable(0, 5, 3); variable(0, 6, 3)");
        sixty.due("second(0, 59)", 0);
        sixty.dueOfEach("row(#)", 0, 1, 4, 5, NONE);
        sixty.due("second(0, 60)", NO_COST);
        Run more = run("64 rows", "problem(); variable(0, 4, 3); variable(0, 4, 3); variable(0, 4, 3)");
        more.due("second(0, 60)", 0);
        more.dueOfEach("row(#)", 0, 3, 3, 0, NONE);
    }

    private static Run sized(String name, int kind, int... sizes) {
        Run r = run(name, "problem(); rule(0, " + kind + ", 0)");
        for (int i = 0; i < sizes.length; i++) {
            r.make("variable(0, " + sizes[i] + ", 3); part(0, 0, " + i + ", 0)");
        }
        return r;
    }

    /** Rows in their order, each full one behind those above it: the 59th full one is the 250th, or the 251st. */
    private static void secondAtTwoHundredAndFifty() {
        Run at = sized("the 250th is it", 1, 3, 4, 6, 1, 1, 1);
        at.due("second(0, 58)", 0);
        at.dueOfEach("row(#)", 0, 2, 1, 4, 0, 0, 0);
        at.due("second(0, 59)", TOO_FAR);
        at.dueOfEach("row(#)", 0, NONE, NONE, NONE, NONE, NONE, NONE);
        Run behind = sized("the 251st is it", 1, 2, 6, 5, 1, 1, 1);
        behind.due("second(0, 57)", 0);
        behind.due("second(0, 58)", TOO_FAR);
        behind.due("row(0)", NONE);
        behind.due("status()", 0);
    }

    private static void secondWhereNoneIsLeft() {
        Run below = sized("249 nodes in all, 32 rows", 4, 6, 4, 6, 5, 3, 2);
        below.due("second(0, 31)", 0);
        below.due("second(0, 32)", NO_COST);
        Run just = sized("250 nodes in all, 24 rows", 4, 6, 5, 5, 4, 3, 3);
        just.due("second(0, 23)", 0);
        just.due("second(0, 24)", NO_COST);
        just.due("second(0, 60)", NO_COST);
        Run above = sized("251 nodes in all, 36 rows", 4, 5, 6, 5, 5, 4, 2);
        above.due("second(0, 36)", TOO_FAR);
        above.due("second(0, 60)", TOO_FAR);
    }

    private static void secondWithoutVariables() {
        Run r = run("second() without variables", "problem()");
        r.due("second(0, 0)", 0);
        r.due("row(0)", NONE);
        r.due("second(0, 1)", NO_COST);
    }

    private static void secondWhereNoneIsOpen() {
        Run r = run("that of none is not open", "problem(); variable(0, 2, 0); rule(0, 0, -1)");
        r.due("second(0, 0)", NO_COST);
        r.due("row(0)", NONE);
        r.make("number(0, 0, 0)");
        r.due("second(0, 0)", 0);
        r.due("row(0)", 0);
    }

    private static void secondIsNoSolving() {
        Run r = pair("no solving").make("limit(1); solve(0, 500); second(0, 1)");
        r.dueOfEach("told(0, #)", 0, CrateHelpers.LIMITED, 1, 1, 2);
        r.due("walked(1, 0)", NONE);
        r.make("solve(0, 1); second(0, 0); second(0, 61)");
        r.dueOfEach("count(#)", 4, 0, 1, 0, 0);
        r.due("row(0)", 1);
        r.due("helper(0, 0)", 0);
    }

    private static void secondByCostThenByRows() {
        // No twins are left out: [1, 0] is behind [0, 1], both cost 4.
        Run r = run("by cost, then by rows", "problem(); variable(0, 2, 3); variable(0, 2, 3); cost(0, 0, 1, 4); cost(0, 1, 1, 4)");
        int[][] due = {{0, 0, 0}, {4, 0, 1}, {4, 1, 0}, {8, 1, 1}};
        for (int k = 0; k < due.length; k++) {
            r.due("second(0, " + k + ")", due[k][0]);
            r.dueOfEach("row(#)", 0, due[k][1], due[k][2], NONE);
        }
        r.due("second(0, 4)", NO_COST);
    }

    // ---- promise 24

    private static void rowOfEachVariable() {
        Run r = run("row() of each variable", "problem(); rule(0, 6, 1)");
        for (int i = 0; i < 6; i++) {
            r.make("variable(0, 6, 3); part(0, 0, " + i + ", 0)");
        }
        r.due("second(0, 0)", 0);
        r.dueOfEach("row(#)", 0, 0, 1, 2, 3, 4, 5);
        for (int i : new int[] {-1, 6, LEAST, MOST}) {
            r.leaves("row(" + i + ")", NONE);
        }
        Run two = pair("row() of two variables").make("second(0, 0)");
        two.dueOfEach("row(#)", 0, 1, 0, NONE, NONE, NONE, NONE);
    }

    private static void rowWhereNoneWasFound() {
        Run r = pair("it found none");
        r.leaves("row(0)", NONE);
        r.make("second(0, 0); second(0, 2)");
        r.leaves("row(0)", NONE);
        r.make("second(0, 0); second(0, -1)");
        r.leaves("row(0)", 1);
    }

    // ---- promise 25

    private static void sameOfOneToFive() {
        Run r = pair("same() of 1 .. 5");
        r.badBeside("same(0, #)", 1, 5);
        r.dueOfEach("same(0, #)", 1, 1, 1, 1, 1, 1);
        String[] others = {Samples.CRAMPED, Samples.ODD, "problem()", "problem(); rule(0, 0, -1)", Samples.dear(15, 3, 5, 4, 6, 5, 2)};
        for (String calls : others) {
            run("same() of another problem", calls).dueOfEach("same(0, #)", 1, 1, 1, 1, 1, 1);
        }
    }

    private static void sameRefusals() {
        Run r = pair("same() while under way").make("solve(0, 1)");
        r.refused("same(0, 1)", STATE);
        r.refused("same(0, 5)", STATE);
        r.refused("same(0, 0)", BAD);
        r.refused("same(0, 6)", BAD);
        r.refused("same(1, 1)", BAD);
    }

    private static void sameLeavesWhatIsTold() {
        Run r = pair("what is told of solvings stays").make("helpers(3); fail(2, 1); turn(2); turn(2); limit(3)");
        r.leaves("same(0, 5)", 1);
        r.make("solve(0, 500)");
        r.leaves("same(0, 5)", 1);
        r.leaves("same(0, 1)", 1);
        r.make("problem(); variable(1, 3, 0); solve(1, 500); ask(0); with(1); second(0, 1)");
        r.leaves("same(0, 4)", 1);
        r.leaves("same(1, 4)", 1);
    }
}
