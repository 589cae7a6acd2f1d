/** The sentences of promises 13 to 19, and of the second terms, that name a boundary: a test of its own for each. */
public final class SolvingEdgesTest {
    private static final int BAD = CrateHelpers.BAD, STATE = CrateHelpers.STATE, NONE = CrateHelpers.NONE;
    private static final int STOPPED = CrateHelpers.STOPPED, FOUND = CrateHelpers.FOUND, NOTHING = CrateHelpers.NOTHING;
    private static final int LIMITED = CrateHelpers.LIMITED, LARGE = CrateHelpers.LARGE;
    private static final int NO_COST = -1000000;
    private static final int LEAST = Integer.MIN_VALUE, MOST = Integer.MAX_VALUE;
    private static final Check CHECK = new Check("SolvingEdgesTest");

    public static void main(String[] args) {
        oneToFiveHundredTurns();
        solveRefusals();
        turnsToTheLast();
        moreThanFiveHundredTurns();
        noneIsOutByARule();
        noneIsWithoutAWay();
        noVariables();
        oneValue();
        sixOfSix();
        leastAndGreatestCosts();
        limitAtTheAnswer();
        limitWhereNoneIsLeft();
        nothingAtTwoHundredAndFortyNine();
        largeWhereNoneIsLeft();
        largeWhereOneIsLeft();
        foundBeforeTwoHundredAndFifty();
        foundAtTwoHundredAndFifty();
        notFoundBehindTwoHundredAndFifty();
        limitsAroundTwoHundredAndFifty();
        equalBounds();
        boundByWhatIsNotOut();
        twinByOne();
        twinsInAllButOneThing();
        leastTwin();
        leastRule();
        leastWithoutAWay();
        giveUpWithoutASolving();
        giveUpOfTheLastProblem();
        giveUpLeavesWhatWas();
        toldWhat();
        toldNone();
        toldBehindRefusedChanges();
        answerOfEachVariable();
        answerNone();
        walkedWhat();
        walkedNone();
        walkedValues();
        closedWhat();
        closedNone();
        closedOfEachValue();
        closedBelowTheLastTaken();
        helperNumbers();
        helperWhat();
        CHECK.end();
    }

    private static Run run(String name, String calls) {
        return new Run(CHECK, name).make(calls);
    }

    private static Run pair(String name) {
        return run(name, Samples.PAIR);
    }

    private static void told(Run r, int... want) {
        r.dueOfEach("told(0, #)", 0, want);
    }

    // ---- promise 13

    private static void oneToFiveHundredTurns() {
        Run r = pair("turns 1 .. 500");
        r.badBeside("solve(0, #)", 1, 500);
        r.due("solve(0, 1)", STOPPED);
        r.badBeside("solve(0, #)", 1, 500);
        r.due("solve(0, 500)", FOUND);
        told(r, FOUND, 3, 3, 6, 1, 1);
    }

    private static void solveRefusals() {
        Run r = pair("that of another problem is under way").make("problem(); solve(0, 1)");
        r.refused("solve(1, 1)", STATE);
        r.refused("solve(1, 500)", STATE);
        r.refused("solve(1, 0)", BAD);
        r.refused("solve(1, 501)", BAD);
        r.refused("solve(2, 1)", BAD);
        r.due("solve(0, 5)", FOUND);
        r.due("solve(1, 2)", FOUND);
    }

    private static void turnsToTheLast() {
        Run r = pair("for so many turns at most");
        r.due("solve(0, 5)", STOPPED);
        r.due("count(4)", 0);
        r.due("solve(0, 1)", FOUND);
        r.due("count(4)", NONE);
        r.due("solve(0, 6)", FOUND);
        r.due("count(4)", NONE);
        r.due("solve(0, 7)", FOUND);
        r.due("told(0, 3)", 6);
    }

    private static void moreThanFiveHundredTurns() {
        Run r = run("a solving of 502 turns", Samples.ODD).make("fail(0, 7)");
        r.due("solve(0, 500)", STOPPED);
        r.due("count(7)", 249);
        r.due("solve(0, 500)", LARGE);
        r.due("told(0, 3)", 502);
    }

    private static void nothingWithoutATurn(Run r) {
        r.due("solve(0, 1)", NOTHING);
        told(r, NOTHING, 0, 0, 0, NO_COST, NO_COST);
        r.due("count(4)", NONE);
        r.due("helper(0, 0)", 0);
        r.due("helper(0, 1)", 0);
        r.due("walked(0, 0)", NONE);
        r.due("closed(0, 0, 0)", NONE);
    }

    private static void noneIsOutByARule() {
        Run r = pair("that of none is out by a rule").make("solve(0, 500); rule(0, 7, 1)");
        nothingWithoutATurn(r);
        Run empty = run("no variables, a broken rule", "problem(); rule(0, 0, -1)");
        nothingWithoutATurn(empty);
    }

    private static void noneIsWithoutAWay() {
        Run r = run("that of none is without a way", "problem(); variable(0, 2, 0); rule(0, 3, 1); part(0, 0, 0, 2); ask(0)");
        r.due("node(2, 0, 0)", 3);
        nothingWithoutATurn(r);
    }

    private static void noVariables() {
        Run r = run("no variables", "problem()");
        r.due("solve(0, 1)", STOPPED);
        r.due("solve(0, 1)", FOUND);
        told(r, FOUND, 1, 1, 2, 0, 0);
        r.dueOfEach("walked(0, #)", 0, 0, NONE, NONE, NONE, NONE, NONE, NONE, 0, 0, 0);
        r.due("closed(0, 0, 0)", NONE);
        r.refused("answer(0, 0)", BAD);
    }

    private static void oneValue() {
        Run r = run("one variable of one value", "problem(); variable(0, 1, 3); cost(0, 0, 0, 8)");
        r.due("solve(0, 4)", FOUND);
        told(r, FOUND, 2, 2, 4, 8, 8);
        r.due("answer(0, 0)", 0);
        r.due("walked(0, 9)", 1);
        r.due("closed(0, 0, 0)", 0);
        r.leaves("closed(0, 1, 0)", NONE);
    }

    private static void sixOfSix() {
        Run r = run("six variables of six values", "problem(); rule(0, 6, 1)");
        for (int i = 0; i < 6; i++) {
            r.make("variable(0, 6, 3); part(0, 0, " + i + ", 0)");
        }
        r.due("solve(0, 500)", FOUND);
        int last = r.answer("told(0, 1)") - 1;
        r.dueOfEach("walked(" + last + ", #)", 0, 6, 0, 1, 2, 3, 4, 5, 0, 0, 0);
        r.dueOfEach("answer(0, #)", 0, 0, 1, 2, 3, 4, 5);
        r.leaves("walked(" + (last + 1) + ", 0)", NONE);
        r.refused("answer(0, 6)", BAD);
    }

    private static void leastAndGreatestCosts() {
        for (int sign = -1; sign <= 1; sign += 2) {
            Run r = run("costs of 100000 times " + sign, "problem()").times(6, "variable(0, 1, 3)");
            for (int i = 0; i < 6; i++) {
                r.make("cost(0, " + i + ", 0, " + sign * 100000 + ")");
            }
            r.due("solve(0, 500)", FOUND);
            told(r, FOUND, 7, 7, 14, sign * 600000, sign * 600000);
            r.due("walked(0, 7)", sign * 600000);
            r.due("second(0, 0)", sign * 600000);
        }
    }

    // ---- the second terms: how the walk ends

    private static void limitAtTheAnswer() {
        Run r = pair("the limit and the answer").make("limit(2)");
        r.due("solve(0, 500)", LIMITED);
        told(r, LIMITED, 2, 2, 4, NO_COST, 1);
        r.make("limit(3)");
        r.due("solve(0, 500)", FOUND);
        r.make("limit(4)");
        r.due("solve(0, 500)", FOUND);
        r.make("limit(1)");
        r.due("solve(0, 500)", LIMITED);
        told(r, LIMITED, 1, 1, 2, NO_COST, 1);
    }

    private static void limitWhereNoneIsLeft() {
        Run r = run("the limit, and none is left", Samples.CRAMPED).make("limit(1)");
        r.due("solve(0, 500)", LIMITED);
        told(r, LIMITED, 1, 1, 2, NO_COST, NO_COST);
        r.make("limit(2)");
        r.due("solve(0, 500)", NOTHING);
        told(r, NOTHING, 1, 1, 2, NO_COST, NO_COST);
    }

    private static void nothingAtTwoHundredAndFortyNine() {
        Run r = run("249 and none is left", Samples.odd(25, 6, 5, 4, 3, 2, 5));
        r.due("solve(0, 497)", STOPPED);
        r.due("solve(0, 1)", NOTHING);
        told(r, NOTHING, 249, 249, 498, NO_COST, NO_COST);
    }

    private static void largeWhereNoneIsLeft() {
        Run r = run("250 and none is left", Samples.odd(17, 6, 4, 4, 5, 5, 2));
        r.due("solve(0, 499)", STOPPED);
        r.due("solve(0, 1)", LARGE);
        told(r, LARGE, 250, 250, 500, NO_COST, NO_COST);
    }

    private static void largeWhereOneIsLeft() {
        Run r = run("250 and one is left", Samples.odd(19, 5, 5, 6, 3, 2, 5));
        r.due("solve(0, 499)", STOPPED);
        r.due("solve(0, 1)", LARGE);
        told(r, LARGE, 250, 250, 500, NO_COST, 0);
        r.leaves("walked(250, 0)", NONE);
        CHECK.holds("the 250th is there", r.answer("walked(249, 0)") > 0);
    }

    private static void foundBeforeTwoHundredAndFifty() {
        Run r = run("the 249th is full", Samples.dear(13, 6, 4, 5, 3, 6, 2));
        r.due("solve(0, 500)", FOUND);
        told(r, FOUND, 249, 249, 498, 9, 9);
    }

    private static void foundAtTwoHundredAndFifty() {
        Run r = run("the 250th is full", Samples.dear(15, 3, 5, 4, 6, 5, 2));
        r.due("solve(0, 500)", FOUND);
        told(r, FOUND, 250, 250, 500, 9, 9);
        r.due("walked(249, 0)", 6);
        r.due("answer(0, 5)", 1);
    }

    private static void notFoundBehindTwoHundredAndFifty() {
        Run r = run("the 251st is full", Samples.dear(13, 5, 6, 4, 3, 6, 2));
        r.due("solve(0, 500)", LARGE);
        told(r, LARGE, 250, 250, 500, NO_COST, 9);
        r.due("walked(249, 0)", 5);
        r.leaves("answer(0, 5)", NONE);
    }

    private static void limitsAroundTwoHundredAndFifty() {
        Run full = run("the 250th is full", Samples.dear(15, 3, 5, 4, 6, 5, 2));
        int[] limits = {249, 250, 251, 1000};
        int[] fullDue = {LIMITED, FOUND, FOUND, FOUND};
        Run not = run("the 250th is not full", Samples.ODD);
        int[] notDue = {LIMITED, LARGE, LARGE, LARGE};
        for (int i = 0; i < limits.length; i++) {
            full.make("limit(" + limits[i] + ")");
            full.due("solve(0, 500)", fullDue[i]);
            not.make("limit(" + limits[i] + ")");
            not.due("solve(0, 500)", notDue[i]);
            not.due("told(0, 1)", Math.min(250, limits[i]));
        }
    }

    // ---- the second terms: what a node is

    private static void equalBounds() {
        Run r = run("of equal ones that whose row is", "problem(); variable(0, 3, 3); variable(0, 1, 3)");
        r.make("solve(0, 500)");
        r.dueOfEach("answer(0, #)", 0, 0, 0);
        r.make("cost(0, 0, 0, 1); solve(0, 500)");
        r.due("answer(0, 0)", 1);
        r.make("cost(0, 0, 2, -1); solve(0, 500)");
        r.due("answer(0, 0)", 2);
        r.make("cost(0, 0, 0, -1); solve(0, 500)");
        r.due("answer(0, 0)", 0);
        r.due("told(0, 5)", -1);
    }

    private static void boundByWhatIsNotOut() {
        Run r = run("the least cost of a value that is not out", "problem(); variable(0, 2, 3); variable(0, 3, 3); rule(0, 1, 2)");
        r.make("part(0, 0, 0, 2); part(0, 0, 1, 1); cost(0, 0, 0, 20); cost(0, 1, 0, 7); cost(0, 1, 1, 5); cost(0, 1, 2, -3); ask(0)");
        r.due("node(3, 0, 0)", -3);
        r.make("with(1)");
        // 2 + 0 alone is not above 2: of the values of the other one the dearest is left.
        r.due("node(3, 0, 0)", 7);
        r.make("number(0, 0, 3); ask(0); with(1)");
        r.due("node(3, 0, 0)", 5);
        r.make("number(0, 0, 4); ask(0); with(1)");
        r.due("node(3, 0, 0)", -3);
        r.make("number(0, 0, 1); ask(0)");
        // The value 1 of the first one is out by itself.
        r.due("node(3, 0, 0)", 25);
    }

    private static void twinByOne() {
        Run r = run("the value of a is above that of e", "problem(); variable(0, 6, 0); variable(0, 6, 3); ask(0); with(5); with(5)");
        r.due("node(2, 0, 0)", 0);
        r.make("ask(0); with(5); with(4)");
        r.due("node(2, 0, 0)", 2);
        r.due("node(4, 0, 0)", 0);
        r.due("node(3, 0, 0)", NO_COST);
        r.make("ask(0); with(4); with(5)");
        r.due("node(2, 0, 0)", 0);
        r.due("node(4, 0, 0)", NONE);
        // Behind a change of one cost they are none.
        r.make("cost(0, 0, 5, 1); ask(0); with(5); with(4)");
        r.due("node(2, 0, 0)", 0);
    }

    /** Whether [1, 0] is a twin in a problem of two variables that first are twins, by rules 0 to 7. */
    private static void twin(String name, String changes, int want) {
        Run r = run(name, "problem(); variable(0, 3, 3); variable(0, 3, 0)").times(8, "rule(0, 1, 50)");
        r.make("part(0, 0, 0, 2); part(0, 7, 1, 2)").make(changes).make("ask(0); with(1); with(0)");
        r.due("node(2, 0, 0)", want);
    }

    private static void twinsInAllButOneThing() {
        String alike = "part(0, 0, 1, 2); part(0, 7, 0, 2)";
        twin("twins", alike, 2);
        twin("first cost", alike + "; cost(0, 0, 0, 1)", 0);
        twin("last cost", alike + "; cost(0, 1, 2, 1)", 0);
        twin("costs alike as they are cast", alike + "; cost(0, 0, 2, -1); cost(0, 1, 2, 255)", 2);
        twin("weight in the first rule", "part(0, 0, 1, 3); part(0, 7, 0, 2)", 0);
        twin("weight in the last rule", "part(0, 0, 1, 2); part(0, 7, 0, 1)", 0);
        twin("part of the first rule alone", "part(0, 7, 0, 2)", 0);
        twin("part of the last rule alone", "part(0, 0, 1, 2)", 0);
        Run sizes = run("as many values", "problem(); variable(0, 2, 3); variable(0, 3, 3); ask(0); with(1); with(0)");
        sizes.due("node(2, 0, 0)", 0);
        Run rising = run("a rising rule: neither", "problem(); variable(0, 2, 3); variable(0, 2, 3); rule(0, 6, -9); ask(0); with(1); with(0)");
        rising.due("node(2, 0, 0)", 2);
        rising.make("part(0, 0, 0, 1); part(0, 0, 1, 1); ask(0); with(1); with(0)");
        rising.due("node(2, 0, 0)", 0);
    }

    private static void leastTwin() {
        Run r = run("the least such is told", "problem()").times(6, "variable(0, 6, 0)");
        r.make("ask(0); with(1); with(2); with(3); with(4); with(5); with(0)");
        r.due("node(4, 0, 0)", 0);
        r.make("ask(0); with(1); with(2); with(3); with(4); with(5); with(4)");
        r.due("node(4, 0, 0)", 4);
        r.make("ask(0); with(5)");
        r.due("node(2, 0, 0)", 0);
    }

    private static void leastRule() {
        Run r = run("the least rule", "problem(); variable(0, 2, 0)").times(7, "rule(0, 0, 0)").make("rule(0, 0, -1); ask(0)");
        r.due("node(2, 0, 0)", 1);
        r.due("node(4, 0, 0)", 7);
        r.make("number(0, 0, -1); ask(0)");
        r.due("node(4, 0, 0)", 0);
        r.make("number(0, 0, 0); number(0, 7, 0); ask(0)");
        r.due("node(4, 0, 0)", NONE);
    }

    private static void leastWithoutAWay() {
        // A rule that only the value 1 of a variable could keep, and that not either as it counts twice.
        Run r = run("the least is told", "problem()").times(6, "variable(0, 2, 0)").make("rule(0, 3, 1); part(0, 0, 5, 2); ask(0)");
        r.due("node(2, 0, 0)", 3);
        r.due("node(4, 0, 0)", 5);
        r.make("rule(0, 3, 1); part(0, 1, 0, 2); ask(0)");
        r.due("node(4, 0, 0)", 0);
        // One value that is left is a way.
        r.make("number(0, 0, 2); number(0, 1, 2); ask(0)");
        r.due("node(2, 0, 0)", 0);
        r.due("node(1, 5, 0)", 1);
        r.due("node(1, 5, 1)", 0);
    }

    // ---- promise 14

    private static void giveUpWithoutASolving() {
        Run r = pair("giveUp() without a solving");
        r.refused("giveUp()", STATE);
        r.make("solve(0, 500)");
        r.refused("giveUp()", STATE);
        r.make("solve(0, 1)");
        r.due("giveUp()", 0);
        r.refused("giveUp()", STATE);
    }

    private static void giveUpOfTheLastProblem() {
        Run r = run("giveUp() of the fifth problem", "problem()").times(4, "problem()");
        r.due("solve(4, 1)", STOPPED);
        r.due("count(4)", 4);
        r.due("giveUp()", 4);
        r.due("count(4)", NONE);
    }

    private static void giveUpLeavesWhatWas() {
        Run r = pair("as if it had never begun").make("solve(0, 500); helpers(2); limit(9); turn(1)");
        r.make("solve(0, 4)");
        r.due("giveUp()", 0);
        told(r, FOUND, 3, 3, 6, 1, 1);
        r.dueOfEach("answer(0, #)", 0, 1, 0);
        r.dueOfEach("count(#)", 0, 1, 9, 2, 1, NONE, 0, 0, 0);
        r.due("walked(2, 0)", 2);
        r.due("helper(0, 1)", 1);
        // The schedule is that of a new solving, from its beginning.
        r.due("solve(0, 1)", STOPPED);
        r.due("solve(0, 1)", STOPPED);
        r.due("helper(0, 1)", 2);
    }

    // ---- promise 15

    private static void toldWhat() {
        Run r = pair("told 0 .. 5").make("solve(0, 500)");
        r.badBeside("told(0, #)", 0, 5);
        Run before = pair("told() before a solving");
        before.badBeside("told(0, #)", 0, 5);
    }

    private static void toldNone() {
        Run r = pair("none ended").make("problem()");
        r.leaves("told(0, 0)", NONE);
        r.leaves("told(0, 5)", NONE);
        r.make("solve(0, 5)");
        r.leaves("told(0, 0)", NONE);
        r.make("solve(0, 1)");
        r.leaves("told(0, 0)", FOUND);
        r.leaves("told(1, 0)", NONE);
        r.make("cost(0, 0, 0, 0)");
        r.leaves("told(0, 0)", NONE);
        r.make("limit(1); solve(0, 500)");
        r.leaves("told(0, 4)", NO_COST);
        r.leaves("told(0, 5)", 1);
    }

    private static void toldBehindRefusedChanges() {
        Run r = pair("changes that are refused").make("solve(0, 500)");
        r.make("variable(0, 7, 0); cost(0, 0, 0, 100001); rule(0, 8, 0); part(0, 0, 0, 1); number(0, 0, 1001)");
        told(r, FOUND, 3, 3, 6, 1, 1);
        r.make("solve(0, 1); variable(0, 2, 0); cost(0, 0, 0, 9); rule(0, 4, 0); number(0, 0, 9)");
        told(r, FOUND, 3, 3, 6, 1, 1);
        r.due("answer(0, 0)", 1);
    }

    // ---- promise 16

    private static void answerOfEachVariable() {
        Run r = pair("answer() of each variable").make("solve(0, 500)");
        r.dueOfEach("answer(0, #)", 0, 1, 0);
        r.badBeside("answer(0, #)", 0, 1);
        Run before = pair("answer() before a solving");
        before.badBeside("answer(0, #)", 0, 1);
    }

    private static void answerNone() {
        Run r = pair("answer() of what is not found").make("limit(1)");
        r.leaves("answer(0, 0)", NONE);
        r.make("solve(0, 500)");
        r.leaves("answer(0, 0)", NONE);
        r.make("limit(0); solve(0, 500)");
        r.leaves("answer(0, 0)", 1);
        r.make("limit(1); solve(0, 500)");
        r.leaves("answer(0, 0)", NONE);
        r.make("limit(0); solve(0, 500); number(0, 0, 0)");
        r.leaves("answer(0, 0)", NONE);
        Run nothing = run("answer() of nothing", Samples.CRAMPED).make("solve(0, 500)");
        nothing.leaves("answer(0, 0)", NONE);
        nothing.refused("answer(0, 2)", BAD);
    }

    // ---- promise 17

    private static void walkedWhat() {
        Run r = pair("walked 0 .. 9").make("solve(0, 500)");
        r.badBeside("walked(0, #)", 0, 9);
        r.badBeside("walked(3, #)", 0, 9);
        Run before = pair("walked() before a solving");
        before.badBeside("walked(0, #)", 0, 9);
    }

    private static void walkedNone() {
        Run r = pair("walked() of none such").make("solve(0, 500)");
        for (int i : new int[] {-1, 3, LEAST, MOST}) {
            r.leaves("walked(" + i + ", 0)", NONE);
            r.leaves("walked(" + i + ", 9)", NONE);
        }
        r.leaves("walked(0, 0)", 0);
        r.leaves("walked(2, 0)", 2);
    }

    private static void walkedValues() {
        Run r = pair("1 .. 6 these").make("solve(0, 500)");
        r.dueOfEach("walked(0, #)", 1, NONE, NONE, NONE, NONE, NONE, NONE);
        r.dueOfEach("walked(1, #)", 1, 1, NONE, NONE, NONE, NONE, NONE);
        r.dueOfEach("walked(2, #)", 1, 1, 0, NONE, NONE, NONE, NONE);
    }

    // ---- promise 18

    private static void closedWhat() {
        Run r = pair("closed 0 .. 1").make("solve(0, 500)");
        r.badBeside("closed(0, 0, #)", 0, 1);
        r.badBeside("closed(3, 0, #)", 0, 1);
        r.badBeside("closed(0, 2, #)", 0, 1);
    }

    private static void closedNone() {
        Run r = pair("closed() of none such").make("solve(0, 500)");
        for (int n : new int[] {-1, 2, LEAST, MOST}) {
            r.leaves("closed(0, " + n + ", 0)", NONE);
            r.leaves("closed(0, " + n + ", 1)", NONE);
        }
        for (int n : new int[] {-1, 3, LEAST, MOST}) {
            r.leaves("closed(" + n + ", 0, 0)", NONE);
            r.leaves("closed(" + n + ", 0, 1)", NONE);
        }
        // The third one is full: nothing is below it, though a variable comes later.
        r.leaves("closed(2, 0, 0)", NONE);
        r.make("variable(0, 6, 0)");
        r.leaves("closed(2, 0, 0)", NONE);
        r.leaves("walked(2, 9)", 0);
    }

    private static void closedOfEachValue() {
        Run r = run("closed() by the first and the last value", "problem(); variable(0, 6, 3); variable(0, 6, 3); rule(0, 1, 4)");
        r.make("part(0, 0, 0, 1); part(0, 0, 1, 1); solve(0, 500)");
        r.dueOfEach("closed(0, #, 0)", 0, 0, 0, 0, 0, 0, 1);
        r.dueOfEach("closed(0, #, 1)", 0, NONE, NONE, NONE, NONE, NONE, 0);
        r.due("walked(0, 9)", 5);
        // [0]: 5 is above 4; twins are none, for no value is below 0.
        r.dueOfEach("closed(1, #, 0)", 0, 0, 0, 0, 0, 0, 1);
        r.due("walked(1, 9)", 5);
    }

    private static void closedBelowTheLastTaken() {
        Run r = pair("closed() below the last one taken").make("limit(2); solve(0, 500)");
        r.due("closed(1, 0, 0)", 0);
        r.due("closed(1, 1, 0)", 1);
        r.due("closed(1, 1, 1)", 0);
        r.due("walked(1, 9)", 1);
        r.leaves("closed(2, 0, 0)", NONE);
    }

    // ---- promise 19

    private static void helperNumbers() {
        Run r = pair("helper 0 .. 4").make("solve(0, 500)");
        r.badBeside("helper(#, 0)", 0, 4);
        r.due("helper(0, 0)", 3);
        r.due("helper(4, 0)", 0);
    }

    private static void helperWhat() {
        Run r = pair("helper() what 0 .. 2").make("helpers(5); fail(4, 1); turn(4); turn(4); turn(3); turn(3); turn(4); solve(0, 500)");
        r.badBeside("helper(0, #)", 0, 2);
        r.badBeside("helper(4, #)", 0, 2);
        r.due("helper(4, 2)", 1);
        r.due("helper(3, 2)", 0);
        // What was ever told stays, also of a number that there is not any more.
        r.make("helpers(1)");
        r.due("helper(4, 2)", 1);
        r.make("solve(0, 500)");
        r.due("helper(4, 0)", 0);
        r.due("helper(4, 2)", 1);
    }
}
