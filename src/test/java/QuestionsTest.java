/** Promises 20 to 25: what holds of a node, the next best rows, and whether helpers change what is found. */
public final class QuestionsTest {
    private static final int BAD = CrateHelpers.BAD, STATE = CrateHelpers.STATE, NONE = CrateHelpers.NONE;
    private static final Check CHECK = new Check("QuestionsTest");

    public static void main(String[] args) {
        askAndWith();
        node();
        nodeRefused();
        secondAndRow();
        secondWithTwinsAndLarge();
        same();
        CHECK.end();
    }

    private static void askAndWith() {
        CrateHelpers x = Samples.pair();
        CHECK.due("with() before ask()", x.with(0), BAD);
        CHECK.due("ask(1)", x.ask(1), BAD);
        CHECK.due("ask(-1)", x.ask(-1), BAD);
        CHECK.due("with() behind a bad ask()", x.with(0), BAD);
        CHECK.due("ask(0)", x.ask(0), 2);
        CHECK.due("with(2)", x.with(2), BAD);
        CHECK.due("with(-1)", x.with(-1), BAD);
        CHECK.due("with(1)", x.with(1), 1);
        CHECK.due("ask(7)", x.ask(7), BAD);
        CHECK.due("a bad ask() changes nothing", x.with(1), 2);
        CHECK.due("all are set", x.with(0), BAD);
        CHECK.due("ask(0) begins anew", x.ask(0), 2);
        CHECK.due("with(0)", x.with(0), 1);
        x.solve(0, 1);
        CHECK.due("while a solving is under way", x.ask(0), 2);
        CHECK.due("with(0)", x.with(0), 1);
    }

    private static void node() {
        CrateHelpers x = Samples.pair();
        x.ask(0);
        CHECK.due("that of none", x.node(2, 99, 99), 0);
        CHECK.due("its bound", x.node(3, -5, -5), 0);
        CHECK.due("why", x.node(4, 99, -1), NONE);
        CHECK.due("[1] by 0", x.node(1, 1, 0), 0);
        x.with(1);
        CHECK.due("bound of [1]", x.node(3, 0, 0), 1);
        CHECK.due("0 is not out", x.node(1, 1, 0), 0);
        CHECK.due("1 is out", x.node(1, 1, 1), 1);
        CHECK.due("of one that is set", x.node(1, 0, 1), 0);
        CHECK.due("rule 0", x.node(0, 0, 99), 0);
        x.with(1);
        CHECK.due("rule 0", x.node(0, 0, 0), 1);
        CHECK.due("out by a rule", x.node(2, 0, 0), 1);
        CHECK.due("its bound", x.node(3, 0, 0), -1000000);
        CHECK.due("which", x.node(4, 0, 0), 0);
        CHECK.due("of one that is set", x.node(1, 1, 0), 0);
        x.variable(0, 2, 0);
        x.rule(0, 4, 0);
        x.part(0, 1, 0, 1);
        x.part(0, 1, 1, 1);
        x.part(0, 1, 2, 1);
        x.ask(0);
        x.with(1);
        CHECK.due("[1] is open", x.node(2, 0, 0), 0);
        x.with(0);
        CHECK.due("[1, 0] is without a way", x.node(2, 0, 0), 3);
        CHECK.due("for variable 2", x.node(4, 0, 0), 2);
        CHECK.due("its bound", x.node(3, 0, 0), -1000000);
        x.with(0);
        CHECK.due("below it: out by a rule", x.node(2, 0, 0), 1);
        CHECK.due("rule 1", x.node(4, 0, 0), 1);
        x.ask(0);
        x.with(1);
        x.with(1);
        CHECK.due("the least rule", x.node(4, 0, 0), 0);
        CHECK.due("all values of another are out then", x.node(1, 2, 0), 1);
    }

    private static void nodeRefused() {
        CrateHelpers x = Samples.pair();
        CHECK.due("before ask()", x.node(2, 0, 0), STATE);
        CHECK.due("before ask(), bad", x.node(5, 0, 0), BAD);
        CHECK.due("before ask(), bad", x.node(-1, 0, 0), BAD);
        CHECK.due("before ask(), no such rule", x.node(0, 9, 0), STATE);
        x.ask(0);
        CHECK.due("rule 1", x.node(0, 1, 0), BAD);
        CHECK.due("rule -1", x.node(0, -1, 0), BAD);
        CHECK.due("variable 2", x.node(1, 2, 0), BAD);
        CHECK.due("variable -1", x.node(1, -1, 0), BAD);
        CHECK.due("value 2", x.node(1, 0, 2), BAD);
        CHECK.due("value -1", x.node(1, 0, -1), BAD);
        x.with(0);
        CHECK.due("value 2 of one that is set", x.node(1, 0, 2), BAD);
        x.problem();
        x.variable(1, 2, 0);
        CHECK.due("another problem changed", x.node(2, 0, 0), 0);
        x.cost(0, 0, 0, 100001);
        CHECK.due("a change was refused", x.node(2, 0, 0), 0);
        x.cost(0, 0, 0, 3);
        CHECK.due("the problem changed", x.node(2, 0, 0), STATE);
        CHECK.due("the problem changed, no such rule", x.node(0, 9, 0), STATE);
        CHECK.due("the problem changed, bad", x.node(5, 0, 0), BAD);
        CHECK.due("with() goes on", x.with(1), 2);
        x.ask(0);
        CHECK.due("asked anew", x.node(2, 0, 0), 0);
    }

    private static void row(CrateHelpers x, int... want) {
        for (int i = 0; i < want.length; i++) {
            CHECK.due("row(" + i + ")", x.row(i), want[i]);
        }
        CHECK.due("row() of no variable", x.row(want.length), NONE);
        CHECK.due("row(-1)", x.row(-1), NONE);
    }

    private static void secondAndRow() {
        CrateHelpers x = Samples.pair();
        CHECK.due("row() before", x.row(0), NONE);
        CHECK.due("second(0, 0)", x.second(0, 0), 1);
        row(x, 1, 0);
        CHECK.due("second(0, 1)", x.second(0, 1), 5);
        row(x, 0, 1);
        CHECK.due("second(0, 61)", x.second(0, 61), -1000002);
        CHECK.due("second(0, -1)", x.second(0, -1), -1000002);
        CHECK.due("second(1, 0)", x.second(1, 0), -1000002);
        row(x, 0, 1);
        CHECK.due("second(0, 2)", x.second(0, 2), -1000000);
        row(x);
        x.limit(1);
        CHECK.due("no limit counts", x.second(0, 0), 1);
        x.solve(0, 1);
        CHECK.due("while a solving is under way", x.second(0, 1), 5);
        CHECK.due("which goes on", x.count(5), 1);
        CHECK.due("which goes on", x.solve(0, 1), CrateHelpers.LIMITED);
        x.variable(0, 2, 0);
        row(x, 0, 1);
        CHECK.due("nothing is told of it", x.told(0, 0), NONE);
        x.rule(0, 2, 1);
        CHECK.due("that of none is out", x.second(0, 0), -1000000);
        x.problem();
        CHECK.due("no variables", x.second(1, 0), 0);
        row(x);
        CHECK.due("no variables, another", x.second(1, 1), -1000000);
    }

    private static void secondWithTwinsAndLarge() {
        CrateHelpers x = new CrateHelpers();
        x.problem();
        x.variable(0, 2, 0);
        x.variable(0, 2, 1);
        x.cost(0, 0, 1, 4);
        x.cost(0, 1, 1, 4);
        CHECK.due("second(0, 1)", x.second(0, 1), 4);
        row(x, 0, 1);
        CHECK.due("second(0, 2): twins count", x.second(0, 2), 4);
        row(x, 1, 0);
        CHECK.due("second(0, 3)", x.second(0, 3), 8);
        row(x, 1, 1);
        for (int v = 2; v < 6; v++) {
            x.variable(0, 6, 3);
        }
        CHECK.due("second(0, 60) of many", x.second(0, 60), 0);
        row(x, 0, 0, 0, 1, 4, 0);
        x.rule(0, 3, 15);
        for (int v = 0; v < 6; v++) {
            x.part(0, 0, v, 2);
        }
        CHECK.due("fewer than 250 were there", x.second(0, 0), -1000000);
        x.problem();
        x.rule(1, 3, 15);
        for (int v = 0; v < 6; v++) {
            x.variable(1, 6, 3);
            x.part(1, 0, v, 2);
        }
        CHECK.due("250 were taken", x.second(1, 0), -1000001);
        row(x);
        x.problem();
        x.rule(2, 4, 0);
        int[] sizes = {3, 5, 6, 6, 4, 3};
        for (int v = 0; v < 6; v++) {
            x.variable(2, sizes[v], 3);
            x.part(2, 0, v, 1);
        }
        CHECK.due("just 250 are there", x.second(2, 60), -1000000);
    }

    private static void same() {
        CrateHelpers x = Samples.pair();
        CHECK.due("same(1, 1)", x.same(1, 1), BAD);
        CHECK.due("same(-1, 1)", x.same(-1, 1), BAD);
        CHECK.due("same(0, 0)", x.same(0, 0), BAD);
        CHECK.due("same(0, 6)", x.same(0, 6), BAD);
        x.helpers(2);
        x.fail(1, 1);
        x.turn(1);
        x.solve(0, 500);
        int turns = x.told(0, 3);
        int idle = x.helper(1, 1);
        int done = x.helper(1, 0);
        int replaced = x.helper(1, 2);
        for (int n = 1; n <= 5; n++) {
            CHECK.due("same(0, " + n + ")", x.same(0, n), 1);
        }
        CHECK.due("turns told", x.told(0, 3), turns);
        CHECK.due("idle turns told", x.helper(1, 1), idle);
        CHECK.due("done told", x.helper(1, 0), done);
        CHECK.due("replaced told", x.helper(1, 2), replaced);
        CHECK.due("walked", x.walked(2, 1), 1);
        CHECK.due("helpers", x.count(2), 2);
        CHECK.due("schedule", x.count(3), 1);
        x.solve(0, 500);
        CHECK.due("failures stay", x.helper(1, 2), replaced + 1);
        x.cost(0, 0, 0, 2);
        CHECK.due("same() of a changed one", x.same(0, 4), 1);
        CHECK.due("nothing is told of it", x.told(0, 0), NONE);
        x.solve(0, 1);
        CHECK.due("under way", x.same(0, 2), STATE);
        CHECK.due("under way, bad", x.same(0, 6), BAD);
    }
}
