/** When a rule of each kind is broken: the last number c at which it is not, and the first at which it is. */
public final class RuleEdgesTest {
    private static final int LOADED = 0, AT_MOST = 1, AT_LEAST = 2, JUST = 3, UNLIKE = 4, FAR = 5, RISING = 6, ENOUGH = 7;
    private static final Check CHECK = new Check("RuleEdgesTest");

    public static void main(String[] args) {
        loadedWithoutParts();
        loadedWithNothingSet();
        loadedAtTheFirstAndLastValue();
        loadedAtValuesThatNoVariableHas();
        loadedByAllSix();
        loadedAtNoValueBeyondTheLast();
        loadedByWhatIsBelowZero();
        atMostWithoutParts();
        atMostWithTheLeastThatCanBe();
        atMostOfAllSix();
        atLeastWithoutParts();
        atLeastWithTheGreatestThatCanBe();
        atLeastOfAllSix();
        justWithoutParts();
        justOnBothSides();
        unlikeOfFewerThanTwo();
        unlikeAtTheFirstAndLastValue();
        farAlike();
        farApart();
        farOfFewerThanTwo();
        risingSteps();
        risingNextToEachOther();
        risingOfFewerThanTwo();
        enoughWithoutParts();
        enoughOfThoseThatAreNotSet();
        enoughAtTheFirstAndLastValue();
        enoughWithWeightsThatAreNoValue();
        CHECK.end();
    }

    private static int[] all(int... numbers) {
        return numbers;
    }

    private static int[] six(int number) {
        return all(number, number, number, number, number, number);
    }

    /** Variables of n values, as many as weights, at least one; and a rule of all of them by their weights. */
    private static Run rule(int kind, int n, int[] weights) {
        Run r = new Run(CHECK, "rule of kind " + kind).make("problem(); rule(0, " + kind + ", 0); variable(0, " + n + ", 3)");
        for (int i = 0; i < weights.length; i++) {
            if (i > 0) {
                r.make("variable(0, " + n + ", 3)");
            }
            r.make("part(0, 0, " + i + ", " + weights[i] + ")");
        }
        return r;
    }

    private static void set(Run r, int c, int[] row) {
        r.make("number(0, 0, " + c + "); ask(0)");
        for (int value : row) {
            r.make("with(" + value + ")");
        }
    }

    private static void fine(Run r, int c, int... row) {
        set(r, c, row);
        r.due("node(0, 0, 0)", 0);
    }

    private static void broken(Run r, int c, int... row) {
        set(r, c, row);
        r.due("node(0, 0, 0)", 1);
        r.due("node(2, 0, 0)", 1);
        r.due("node(4, 0, 0)", 0);
    }

    // ---- 0 LOADED: more than c together, for some value 0 .. 5

    private static void loadedWithoutParts() {
        Run r = rule(LOADED, 2, all());
        fine(r, 0);
        broken(r, -1);
        fine(r, 0, 1);
        broken(r, -1, 1);
        fine(r, 1000);
        broken(r, -1000);
    }

    private static void loadedWithNothingSet() {
        Run above = rule(LOADED, 6, six(50));
        fine(above, 0);
        broken(above, -1);
        Run below = rule(LOADED, 6, six(-50));
        fine(below, -300);
        broken(below, -301);
    }

    private static void loadedAtTheFirstAndLastValue() {
        Run r = rule(LOADED, 6, all(3, 4));
        fine(r, 7, 0, 0);
        broken(r, 6, 0, 0);
        fine(r, 7, 5, 5);
        broken(r, 6, 5, 5);
        fine(r, 4, 0, 5);
        broken(r, 3, 0, 5);
    }

    private static void loadedAtValuesThatNoVariableHas() {
        Run one = rule(LOADED, 1, all(-3));
        fine(one, -3);
        broken(one, -4);
        fine(one, 0, 0);
        broken(one, -1, 0);
    }

    private static void loadedByAllSix() {
        Run r = rule(LOADED, 6, six(50));
        fine(r, 300, 2, 2, 2, 2, 2, 2);
        broken(r, 299, 2, 2, 2, 2, 2, 2);
        fine(r, 50, 0, 1, 2, 3, 4, 5);
        broken(r, 49, 0, 1, 2, 3, 4, 5);
    }

    private static void loadedAtNoValueBeyondTheLast() {
        Run r = rule(LOADED, 6, six(-1));
        fine(r, -1, 0, 1, 2, 3, 4, 5);
        broken(r, -2, 0, 1, 2, 3, 4, 5);
        // None is set to 5 here.
        fine(r, 0, 0, 0, 1, 2, 3, 4);
        broken(r, -1, 0, 0, 1, 2, 3, 4);
    }

    private static void loadedByWhatIsBelowZero() {
        Run r = rule(LOADED, 2, all(5, -2, 0));
        fine(r, 3, 1);
        broken(r, 2, 1);
        fine(r, 3, 1, 1);
        broken(r, 2, 1, 1);
        fine(r, 5, 1, 0);
        broken(r, 4, 1, 0);
    }

    // ---- 1 AT MOST, 2 AT LEAST, 3 JUST

    private static void atMostWithoutParts() {
        Run r = rule(AT_MOST, 2, all());
        fine(r, 0);
        broken(r, -1);
    }

    private static void atMostWithTheLeastThatCanBe() {
        Run r = rule(AT_MOST, 4, all(2, -3, 0));
        fine(r, -9);
        broken(r, -10);
        fine(r, -3, 3);
        broken(r, -4, 3);
        fine(r, 6, 3, 0);
        broken(r, 5, 3, 0);
        fine(r, 3, 3, 1, 3);
        broken(r, 2, 3, 1, 3);
    }

    private static void atMostOfAllSix() {
        Run r = rule(AT_MOST, 6, six(50));
        fine(r, 1000, 5, 5, 5, 5, 0, 0);
        broken(r, 999, 5, 5, 5, 5, 0, 0);
        broken(r, 1000, 5, 5, 5, 5, 1, 0);
        broken(r, 1000, 5, 5, 5, 5, 5, 5);
        Run below = rule(AT_MOST, 6, six(-50));
        fine(below, -1000);
        fine(below, -1000, 0, 0);
        broken(below, -1000, 0, 0, 1);
    }

    private static void atLeastWithoutParts() {
        Run r = rule(AT_LEAST, 2, all());
        fine(r, 0);
        broken(r, 1);
    }

    private static void atLeastWithTheGreatestThatCanBe() {
        Run r = rule(AT_LEAST, 4, all(2, -3, 0));
        fine(r, 6);
        broken(r, 7);
        fine(r, 2, 1);
        broken(r, 3, 1);
        fine(r, -9, 0, 3);
        broken(r, -8, 0, 3);
        fine(r, -1, 1, 1, 3);
        broken(r, 0, 1, 1, 3);
    }

    private static void atLeastOfAllSix() {
        Run r = rule(AT_LEAST, 6, six(50));
        fine(r, 1000, 0, 0);
        broken(r, 1000, 0, 0, 4);
        fine(r, 1000, 5, 5, 5, 5, 0, 0);
        broken(r, 1000, 5, 5, 5, 4, 0, 0);
        Run below = rule(AT_LEAST, 6, six(-50));
        fine(below, -1000, 5, 5, 5, 5, 0, 0);
        broken(below, -999, 5, 5, 5, 5, 0, 0);
        broken(below, -1000, 5, 5, 5, 5, 1, 0);
    }

    private static void justWithoutParts() {
        Run r = rule(JUST, 2, all());
        fine(r, 0);
        broken(r, -1);
        broken(r, 1);
    }

    private static void justOnBothSides() {
        Run r = rule(JUST, 4, all(2, -3));
        fine(r, -9);
        broken(r, -10);
        fine(r, 6);
        broken(r, 7);
        fine(r, -5, 2);
        broken(r, -6, 2);
        fine(r, 4, 2);
        broken(r, 5, 2);
        fine(r, 1, 2, 1);
        broken(r, 0, 2, 1);
        broken(r, 2, 2, 1);
    }

    // ---- 4 UNLIKE, 5 FAR

    private static void unlikeOfFewerThanTwo() {
        fine(rule(UNLIKE, 2, all()), 0, 0);
        fine(rule(UNLIKE, 2, all(1)), 0, 0);
        fine(rule(UNLIKE, 1, all(1, 1)), 0, 0);
    }

    private static void unlikeAtTheFirstAndLastValue() {
        Run r = rule(UNLIKE, 6, all(-50, 50, 0));
        for (int c = -1000; c <= 1000; c += 1000) {
            broken(r, c, 0, 0);
            broken(r, c, 5, 5);
            broken(r, c, 0, 5, 0);
            broken(r, c, 0, 5, 5);
            fine(r, c, 0, 5);
            fine(r, c, 0, 5, 1);
        }
        fine(rule(UNLIKE, 6, six(1)), 0, 5, 4, 3, 2, 1, 0);
        broken(rule(UNLIKE, 6, six(1)), 0, 5, 4, 3, 2, 1, 5);
    }

    private static void farAlike() {
        Run r = rule(FAR, 6, all(1, 1));
        for (int c = -1000; c <= 1000; c += 500) {
            broken(r, c, 5, 5);
            broken(r, c, 0, 0);
        }
    }

    private static void farApart() {
        Run r = rule(FAR, 6, all(1, 1, 1));
        for (int apart = 1; apart < 6; apart++) {
            fine(r, apart, 0, apart);
            broken(r, apart + 1, 0, apart);
            fine(r, apart, 5, 5 - apart);
            broken(r, apart + 1, 5, 5 - apart);
        }
        fine(r, 2, 1, 5, 3);
        broken(r, 3, 1, 5, 3);
        fine(r, -1000, 0, 1);
        broken(r, 1000, 0, 5);
    }

    private static void farOfFewerThanTwo() {
        fine(rule(FAR, 6, all()), 1000, 0);
        fine(rule(FAR, 6, all(1)), 1000, 0);
        fine(rule(FAR, 6, all(1, 1)), 1000, 0);
    }

    // ---- 6 RISING

    private static void risingSteps() {
        Run r = rule(RISING, 6, all(1, 1));
        int[][] rows = {{0, 5}, {5, 0}, {3, 3}, {2, 3}, {0, 0}, {5, 5}};
        for (int[] row : rows) {
            fine(r, row[1] - row[0], row);
            broken(r, row[1] - row[0] + 1, row);
        }
        fine(r, -1000, 5, 0);
        broken(r, 1000, 0, 5);
    }

    private static void risingNextToEachOther() {
        Run r = new Run(CHECK, "rising, parts by their order").make("problem(); rule(0, 6, 0)").times(3, "variable(0, 6, 3)");
        r.make("part(0, 0, 2, 1); part(0, 0, 0, 1); part(0, 0, 1, 1)");
        fine(r, 0, 3);
        fine(r, 0, 3, 3);
        broken(r, 1, 3, 3);
        fine(r, 0, 3, 4, 3);
        broken(r, 0, 3, 4, 5);
        fine(r, 1, 3, 4, 2);
        Run apart = new Run(CHECK, "rising, one between is not set").make("problem(); rule(0, 6, 0)").times(3, "variable(0, 6, 3)");
        apart.make("part(0, 0, 0, 1); part(0, 0, 2, 1); part(0, 0, 1, 1)");
        fine(apart, 0, 5, 0);
        broken(apart, 0, 5, 0, 0);
    }

    private static void risingOfFewerThanTwo() {
        fine(rule(RISING, 6, all()), 1000, 5);
        fine(rule(RISING, 6, all(1)), 1000, 5);
        fine(rule(RISING, 6, all(1, 1)), 1000, 5);
    }

    // ---- 7 ENOUGH

    private static void enoughWithoutParts() {
        Run r = rule(ENOUGH, 2, all());
        fine(r, 0);
        fine(r, -1000);
        broken(r, 1);
        broken(r, 1000);
    }

    private static void enoughOfThoseThatAreNotSet() {
        Run r = rule(ENOUGH, 6, six(2));
        fine(r, 6);
        broken(r, 7);
        fine(r, 6, 2);
        broken(r, 7, 2);
        fine(r, 5, 3);
        broken(r, 6, 3);
        fine(r, 6, 2, 2, 2, 2, 2, 2);
        fine(r, 0, 1, 1, 1, 1, 1, 1);
        broken(r, 1, 1, 1, 1, 1, 1, 1);
    }

    private static void enoughAtTheFirstAndLastValue() {
        Run r = rule(ENOUGH, 6, all(0, 5));
        fine(r, 2, 0, 5);
        broken(r, 3, 0, 5);
        fine(r, 0, 5, 0);
        broken(r, 1, 5, 0);
    }

    private static void enoughWithWeightsThatAreNoValue() {
        Run r = rule(ENOUGH, 6, all(6, -1, 50, -50));
        fine(r, 4);
        broken(r, 4, 5);
        fine(r, 0, 5, 0, 5, 0);
        broken(r, 1, 5, 0, 5, 0);
    }
}
