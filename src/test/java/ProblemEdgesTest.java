/** The sentences of promises 1 to 7, and of the first terms, that name a boundary: a test of its own for each. */
public final class ProblemEdgesTest {
    private static final int BAD = CrateHelpers.BAD, STATE = CrateHelpers.STATE, FULL = CrateHelpers.FULL;
    private static final int NONE = CrateHelpers.NONE;
    private static final int LEAST = Integer.MIN_VALUE, MOST = Integer.MAX_VALUE;

    private static final Check CHECK = new Check("ProblemEdgesTest");

    public static void main(String[] args) {
        newObjectIsEmpty();
        newObjectRefuses();
        fiveProblems();
        problemWhileUnderWay();
        problemsThatAreNot();
        valuesOfAVariable();
        kindsOfRow();
        sixVariables();
        variablesOfEachProblem();
        variableRefusals();
        costsAreZeroAtFirst();
        costOfFirstAndLastValue();
        costOfWhatIsNot();
        numbersToldForACost();
        bytesWrap();
        shortsWrap();
        charsWrap();
        intsDoNotWrap();
        costRefusals();
        kindsOfRule();
        numbersOfRule();
        eightRules();
        ruleRefusals();
        weights();
        sixParts();
        partOfWhatIsNot();
        partAlready();
        partRefusals();
        numberBounds();
        numberOfWhatIsNot();
        numberRefusals();
        CHECK.end();
    }

    private static Run run(String name, String calls) {
        return new Run(CHECK, name).make(calls);
    }

    private static Run pair(String name) {
        return run(name, Samples.PAIR);
    }

    // ---- promise 1

    private static void newObjectIsEmpty() {
        Run r = new Run(CHECK, "new object");
        r.due("status()", 0);
        r.dueOfEach("count(#)", 0, 0, 0, 1, 0, NONE, 0, 0, 0);
        for (int what = 0; what < 3; what++) {
            r.dueOfEach("helper(#, " + what + ")", 0, 0, 0, 0, 0, 0);
        }
        r.dueOfEach("row(#)", 0, NONE, NONE, NONE, NONE, NONE, NONE);
        r.due("walked(0, 0)", NONE);
        r.due("closed(0, 0, 0)", NONE);
        r.due("helpers(1)", 1);
        r.due("plain()", 0);
        r.due("limit(0)", 0);
    }

    private static void newObjectRefuses() {
        Run r = new Run(CHECK, "new object");
        String[] bad = {
            "variable(0, 1, 0)", "cost(0, 0, 0, 0)", "rule(0, 0, 0)", "part(0, 0, 0, 0)", "number(0, 0, 0)", "fail(1, 0)",
            "solve(0, 1)", "told(0, 0)", "answer(0, 0)", "ask(0)", "with(0)", "second(0, 0)", "same(0, 1)", "about(0, 0, 0)",
            "costs(0, 0, 0)"};
        for (String call : bad) {
            r.refused(call, BAD);
        }
        r.refused("giveUp()", STATE);
        r.refused("node(2, 0, 0)", STATE);
    }

    // ---- promise 2

    private static void fiveProblems() {
        Run r = new Run(CHECK, "5 problems at most");
        r.dueFrom(0, 5, "problem()");
        r.refused("problem()", FULL);
        r.due("count(0)", 5);
        r.due("variable(4, 1, 0)", 0);
        r.refused("variable(5, 1, 0)", BAD);
    }

    private static void problemWhileUnderWay() {
        Run r = pair("problem() while under way").make("solve(0, 1)");
        r.refused("problem()", STATE);
        Run full = pair("problem(), full and under way").times(4, "problem()").make("solve(0, 1)");
        full.refused("problem()", STATE);
        full.due("giveUp()", 0);
        full.refused("problem()", FULL);
    }

    private static void problemsThatAreNot() {
        Run r = pair("problems that there are").make("problem()");
        String[] calls = {
            "variable(#, 1, 0)", "cost(#, 0, 0, 0)", "rule(#, 0, 0)", "part(#, 0, 0, 0)", "number(#, 0, 0)", "solve(#, 1)",
            "told(#, 0)", "answer(#, 0)", "ask(#)", "second(#, 0)", "same(#, 1)", "about(#, 0, 0)", "costs(#, 0, 0)"};
        for (String call : calls) {
            r.badBeside(call, 0, 1);
        }
    }

    // ---- promise 3

    private static void valuesOfAVariable() {
        Run r = pair("n 1 .. 6");
        r.badBeside("variable(0, #, 0)", 1, 6);
        r.due("variable(0, 1, 0)", 2);
        r.due("about(0, 5, 2)", 1);
        r.due("variable(0, 6, 0)", 3);
        r.due("about(0, 5, 3)", 6);
    }

    private static void kindsOfRow() {
        Run r = pair("kinds of a row 0 .. 3");
        r.badBeside("variable(0, 1, #)", 0, 3);
        r.due("variable(0, 1, 0)", 2);
        r.due("about(0, 6, 2)", 0);
        r.due("variable(0, 1, 3)", 3);
        r.due("about(0, 6, 3)", 3);
    }

    private static void sixVariables() {
        Run r = run("6 variables at most", "problem()");
        r.dueFrom(0, 6, "variable(0, 2, 0)");
        r.refused("variable(0, 2, 0)", FULL);
        r.due("about(0, 0, 0)", 6);
        r.due("about(0, 5, 5)", 2);
    }

    private static void variablesOfEachProblem() {
        Run r = run("in each its variables", "problem(); problem()");
        r.times(6, "variable(0, 2, 0)");
        r.due("variable(1, 3, 1)", 0);
        r.due("variable(1, 3, 1)", 1);
        r.due("about(1, 0, 0)", 2);
        r.due("about(0, 5, 0)", 2);
    }

    private static void variableRefusals() {
        Run full = run("variable(), full", "problem()").times(6, "variable(0, 1, 0)");
        full.refused("variable(0, 7, 0)", BAD);
        full.refused("variable(0, 1, 4)", BAD);
        full.refused("variable(1, 1, 0)", BAD);
        full.due("solve(0, 1)", CrateHelpers.STOPPED);
        full.refused("variable(0, 1, 0)", STATE);
        full.refused("variable(0, 0, 0)", BAD);
        full.refused("variable(0, 1, -1)", BAD);
        Run other = pair("variable() of another problem").make("problem(); solve(0, 1)");
        other.refused("variable(1, 1, 0)", STATE);
    }

    // ---- promise 4

    private static void costsAreZeroAtFirst() {
        Run r = run("0 at first", "problem()");
        for (int kind = 0; kind < 4; kind++) {
            r.make("variable(0, 6, " + kind + ")");
            r.dueOfEach("costs(0, " + kind + ", #)", 0, 0, 0, 0, 0, 0, 0);
        }
    }

    private static void costOfFirstAndLastValue() {
        Run r = run("values 0 .. n - 1", "problem(); variable(0, 1, 3); variable(0, 6, 3)");
        r.due("cost(0, 0, 0, 3)", 3);
        r.refusedOfEach("cost(0, 0, #, 4)", BAD, -1, 1, LEAST, MOST);
        r.due("cost(0, 1, 0, 5)", 5);
        r.due("cost(0, 1, 5, 6)", 6);
        r.refusedOfEach("cost(0, 1, #, 7)", BAD, -1, 6, LEAST, MOST);
        r.dueOfEach("costs(0, 1, #)", 0, 5, 0, 0, 0, 0, 6);
        r.due("costs(0, 0, 0)", 3);
    }

    private static void costOfWhatIsNot() {
        Run r = pair("cost() of a variable that is not");
        r.refusedOfEach("cost(0, #, 0, 0)", BAD, -1, 2, LEAST, MOST);
        Run none = run("cost() without variables", "problem()");
        none.refused("cost(0, 0, 0, 0)", BAD);
    }

    private static void numbersToldForACost() {
        for (int kind = 0; kind < 4; kind++) {
            Run r = run("v -100000 .. 100000, kind " + kind, "problem(); variable(0, 1, " + kind + "); cost(0, 0, 0, 7)");
            // 131072 and 65536 + 100000 would be small ones once they are cast.
            r.refusedOfEach("cost(0, 0, 0, #)", BAD, -100001, 100001, 131072, 165536, -131072, LEAST, MOST);
            r.due("costs(0, 0, 0)", 7);
        }
    }

    private static void wraps(int kind, int... toldAndKept) {
        Run r = run("a row of kind " + kind, "problem(); variable(0, 2, " + kind + ")");
        for (int i = 0; i < toldAndKept.length; i += 2) {
            r.due("cost(0, 0, 1, " + toldAndKept[i] + ")", toldAndKept[i + 1]);
            r.due("status()", 0);
            r.due("costs(0, 0, 1)", toldAndKept[i + 1]);
        }
        r.due("costs(0, 0, 0)", 0);
    }

    private static void bytesWrap() {
        wraps(0, 127, 127, 128, -128, -128, -128, -129, 127, 255, -1, 256, 0, 257, 1, 100000, -96, -100000, 96);
    }

    private static void shortsWrap() {
        wraps(1, 32767, 32767, 32768, -32768, -32768, -32768, -32769, 32767, 65535, -1, 65536, 0, 100000, -31072, -100000, 31072);
    }

    private static void charsWrap() {
        wraps(2, 0, 0, -1, 65535, 65535, 65535, 65536, 0, -65536, 0, 32768, 32768, -32768, 32768, 100000, 34464, -100000, 31072);
    }

    private static void intsDoNotWrap() {
        wraps(3, 100000, 100000, -100000, -100000, 65536, 65536, 32768, 32768, 128, 128, -1, -1);
    }

    private static void costRefusals() {
        Run r = pair("cost() while under way").make("problem(); variable(1, 1, 0); solve(0, 1)");
        r.refused("cost(0, 0, 0, 9)", STATE);
        r.refused("cost(1, 0, 0, 9)", STATE);
        r.refused("cost(0, 0, 0, 100001)", BAD);
        r.refused("cost(0, 0, 2, 9)", BAD);
        r.refused("cost(0, 2, 0, 9)", BAD);
        r.refused("cost(2, 0, 0, 9)", BAD);
    }

    // ---- promise 5

    private static void kindsOfRule() {
        Run r = pair("kinds of a rule 0 .. 7");
        r.badBeside("rule(0, #, 0)", 0, 7);
        r.due("rule(0, 0, 0)", 1);
        r.due("about(0, 2, 1)", 0);
        r.due("rule(0, 7, 0)", 2);
        r.due("about(0, 2, 2)", 7);
    }

    private static void numbersOfRule() {
        Run r = pair("c -1000 .. 1000");
        r.badBeside("rule(0, 4, #)", -1000, 1000);
        r.due("rule(0, 4, -1000)", 1);
        r.due("about(0, 3, 1)", -1000);
        r.due("rule(0, 4, 1000)", 2);
        r.due("about(0, 3, 2)", 1000);
    }

    private static void eightRules() {
        Run r = run("8 rules at most", "problem(); problem()");
        r.dueFrom(0, 8, "rule(0, 4, 0)");
        r.refused("rule(0, 4, 0)", FULL);
        r.due("about(0, 1, 0)", 8);
        r.due("rule(1, 4, 0)", 0);
        r.due("about(0, 4, 7)", 0);
    }

    private static void ruleRefusals() {
        Run full = pair("rule(), full").times(7, "rule(0, 4, 0)");
        full.refused("rule(0, 8, 0)", BAD);
        full.refused("rule(0, 0, 1001)", BAD);
        full.due("solve(0, 1)", CrateHelpers.STOPPED);
        full.refused("rule(0, 4, 0)", STATE);
        full.refused("rule(0, -1, 0)", BAD);
        full.refused("rule(0, 4, -1001)", BAD);
        Run other = pair("rule() of another problem").make("problem(); solve(0, 1)");
        other.refused("rule(1, 4, 0)", STATE);
    }

    // ---- promise 6

    private static void weights() {
        Run r = pair("weights -50 .. 50").make("rule(0, 1, 0)");
        r.badBeside("part(0, 1, 0, #)", -50, 50);
        r.due("part(0, 1, 0, -50)", 1);
        r.due("part(0, 1, 1, 50)", 2);
        // -50 + 0 is not above -50, -50 + 50 is.
        r.make("number(0, 1, -50); ask(0); with(1); with(0)");
        r.due("node(0, 1, 0)", 0);
        r.make("ask(0); with(1); with(1)");
        r.due("node(0, 1, 0)", 1);
    }

    private static void sixParts() {
        Run r = run("all variables are parts", "problem(); rule(0, 4, 0)").times(6, "variable(0, 6, 3)");
        r.due("about(0, 4, 0)", 0);
        r.dueOfEach("part(0, 0, #, 0)", 0, 1, 2, 3, 4, 5, 6);
        for (int variable = 0; variable < 6; variable++) {
            r.refused("part(0, 0, " + variable + ", 0)", STATE);
        }
        r.refused("part(0, 0, 6, 0)", BAD);
        r.due("about(0, 4, 0)", 6);
    }

    private static void partOfWhatIsNot() {
        Run r = pair("part() of what is not").make("rule(0, 4, 0)");
        r.refusedOfEach("part(0, #, 0, 0)", BAD, -1, 2, LEAST, MOST);
        r.refusedOfEach("part(0, 1, #, 0)", BAD, -1, 2, LEAST, MOST);
        Run noRule = run("part() without rules", "problem(); variable(0, 1, 0)");
        noRule.refused("part(0, 0, 0, 0)", BAD);
        Run noVariable = run("part() without variables", "problem(); rule(0, 0, 0)");
        noVariable.refused("part(0, 0, 0, 0)", BAD);
    }

    private static void partAlready() {
        Run r = pair("it is one already").make("rule(0, 1, 0); part(0, 1, 1, 4)");
        r.refused("part(0, 1, 1, 4)", STATE);
        r.refused("part(0, 1, 1, -4)", STATE);
        // The weight that it came with holds on: 4 is above 3.
        r.make("part(0, 1, 1, 0); number(0, 1, 3); ask(0); with(0); with(1)");
        r.due("node(0, 1, 0)", 1);
        r.due("part(0, 1, 0, 4)", 2);
    }

    private static void partRefusals() {
        Run r = pair("part(), already and bad").make("rule(0, 4, 0)");
        r.refused("part(0, 0, 0, 51)", BAD);
        r.refused("part(0, 0, 0, -51)", BAD);
        r.due("solve(0, 1)", CrateHelpers.STOPPED);
        r.refused("part(0, 1, 0, 0)", STATE);
        r.refused("part(0, 0, 0, 0)", STATE);
        r.refused("part(0, 1, 0, 51)", BAD);
        r.refused("part(0, 2, 0, 0)", BAD);
        r.refused("part(0, 1, 2, 0)", BAD);
    }

    // ---- promise 7

    private static void numberBounds() {
        Run r = pair("number() -1000 .. 1000");
        r.badBeside("number(0, 0, #)", -1000, 1000);
        r.due("number(0, 0, -1000)", 0);
        r.due("number(0, 0, 1000)", -1000);
        r.due("number(0, 0, 0)", 1000);
        r.due("status()", 0);
    }

    private static void numberOfWhatIsNot() {
        Run r = pair("number() of a rule that is not");
        r.refusedOfEach("number(0, #, 0)", BAD, -1, 1, LEAST, MOST);
        Run none = run("number() without rules", "problem()");
        none.refused("number(0, 0, 0)", BAD);
        Run full = run("number() of the eighth rule", "problem()").times(8, "rule(0, 4, 3)");
        full.due("number(0, 7, 5)", 3);
        full.refused("number(0, 8, 0)", BAD);
        full.due("about(0, 3, 6)", 3);
    }

    private static void numberRefusals() {
        Run r = pair("number() while under way").make("problem(); rule(1, 0, 0); solve(0, 1)");
        r.refused("number(0, 0, 9)", STATE);
        r.refused("number(1, 0, 9)", STATE);
        r.refused("number(0, 0, 1001)", BAD);
        r.refused("number(0, 1, 9)", BAD);
    }
}
