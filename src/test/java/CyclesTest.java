/**
 * One object, cycle by cycle up to its 512th call: a cost changes, a solving begins, stops, is asked around, goes on or
 * is given up and begins again, and ends. What is due is reckoned from the cost n of the cycle alone.
 */
public final class CyclesTest {
    private static final int NONE = CrateHelpers.NONE, STATE = CrateHelpers.STATE;
    private static final int STOPPED = CrateHelpers.STOPPED, FOUND = CrateHelpers.FOUND;
    private static final int CYCLES = 14;
    private static final Check CHECK = new Check("CyclesTest");

    public static void main(String[] args) {
        Run r = new Run(CHECK, "cycles").make(Samples.PAIR);
        for (int n = 0; n < CYCLES; n++) {
            changes(r, n);
            stops(r);
            isAsked(r, n);
            if (n % 2 == 0) {
                r.due("solve(0, 3)", STOPPED);
                r.due("solve(0, 1)", FOUND);
            } else {
                isGivenUp(r);
            }
            ends(r, n);
        }
        CHECK.holds("the run is a long one", r.calls() > 450);
        CHECK.end();
    }

    /** Value 1 of variable 0 costs n from now on: [1, 0] costs n, and [0, 1] costs 5. */
    private static void changes(Run r, int n) {
        r.due("cost(0, 0, 1, " + n + ")", n);
        r.due("status()", 0);
        r.due("told(0, 0)", NONE);
        r.due("answer(0, 0)", NONE);
        r.due("node(2, 0, 0)", STATE);
    }

    /** Two turns: that of none is done and taken, the two below it are known. */
    private static void stops(Run r) {
        r.due("solve(0, 2)", STOPPED);
        r.dueOfEach("count(#)", 4, 0, 3, 1, 1);
        r.due("cost(0, 0, 0, 1)", -1000000);
        r.due("status()", STATE);
        r.due("same(0, 2)", STATE);
    }

    private static void isAsked(Run r, int n) {
        r.due("ask(0)", 2);
        r.due("with(1)", 1);
        r.due("node(1, 1, 1)", 1);
        r.due("node(3, 0, 0)", n);
        r.due("second(0, 1)", Math.max(n, 5));
        r.due("row(0)", n < 5 ? 0 : 1);
    }

    private static void isGivenUp(Run r) {
        r.due("giveUp()", 0);
        r.due("told(0, 0)", NONE);
        r.due("count(7)", 0);
        r.due("solve(0, 500)", FOUND);
    }

    /** Where both rows cost 5, that which comes first is found. */
    private static void ends(Run r, int n) {
        int first = n < 5 ? 1 : 0;
        r.dueOfEach("told(0, #)", 0, FOUND, 3, 3, 6, Math.min(n, 5), Math.min(n, 5));
        r.dueOfEach("answer(0, #)", 0, first, 1 - first);
        r.due("walked(1, 1)", first);
        r.due("walked(2, 7)", Math.min(n, 5));
        r.due("closed(1, " + first + ", 0)", 1);
        r.due("helper(0, 0)", 3);
        r.due("node(2, 0, 0)", 0);
        r.due("same(0, 3)", 1);
    }
}
