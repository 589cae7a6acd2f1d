/** Problems that several tests begin with, each problem 0 of a new object. */
final class Samples {
    private Samples() {
    }

    /** Two variables of two values that are not to be alike: that of none, [1] and [1, 0] are walked. */
    static CrateHelpers pair() {
        CrateHelpers x = new CrateHelpers();
        x.problem();
        x.variable(0, 2, 3);
        x.variable(0, 2, 3);
        x.cost(0, 0, 1, 1);
        x.cost(0, 1, 1, 5);
        x.rule(0, 4, 0);
        x.part(0, 0, 0, 1);
        x.part(0, 0, 1, 1);
        return x;
    }

    /** No sum of even numbers is 15: no full row is open, and many others are. */
    static CrateHelpers odd() {
        CrateHelpers x = new CrateHelpers();
        x.problem();
        for (int v = 0; v < 6; v++) {
            x.variable(0, 6, 3);
            x.cost(0, v, 5, v);
        }
        x.rule(0, 3, 15);
        for (int v = 0; v < 6; v++) {
            x.part(0, 0, v, 2);
        }
        return x;
    }

    /** Two variables of one value that are not to be alike: that of none is open, and nothing below it. */
    static CrateHelpers cramped() {
        CrateHelpers x = new CrateHelpers();
        x.problem();
        x.variable(0, 1, 0);
        x.variable(0, 1, 0);
        x.rule(0, 4, 0);
        x.part(0, 0, 0, 1);
        x.part(0, 0, 1, 1);
        return x;
    }
}
