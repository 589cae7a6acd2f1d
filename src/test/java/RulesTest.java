/** Terms 1: when a rule of each kind is broken, with some variables set and others not. */
public final class RulesTest {
    private static final Check CHECK = new Check("RulesTest");

    public static void main(String[] args) {
        loaded();
        atMost();
        atLeast();
        just();
        unlikeAndFar();
        rising();
        enough();
        CHECK.end();
    }

    /** A problem of variables of n values each and one rule whose parts are the variables in turn. */
    private static CrateHelpers one(int n, int kind, int c, int... weights) {
        CrateHelpers x = new CrateHelpers();
        x.problem();
        x.rule(0, kind, c);
        for (int i = 0; i < weights.length; i++) {
            x.variable(0, n, 3);
            x.part(0, 0, i, weights[i]);
        }
        return x;
    }

    private static void broken(String what, CrateHelpers x, int want, int... row) {
        x.ask(0);
        for (int value : row) {
            x.with(value);
        }
        CHECK.due(what + " " + java.util.Arrays.toString(row), x.node(0, 0, 0), want);
    }

    private static void loaded() {
        CrateHelpers x = one(3, 0, 5, 3, 3, 2);
        broken("loaded", x, 0);
        broken("loaded", x, 0, 1);
        broken("loaded", x, 1, 1, 1);
        broken("loaded", x, 0, 1, 2, 1);
        broken("loaded", x, 1, 2, 2, 0);
        CrateHelpers y = one(2, 0, 1, 3, -2);
        broken("loaded, one below 0 not set", y, 0, 0);
        broken("loaded, one below 0 elsewhere", y, 1, 0, 1);
        broken("loaded, one below 0 there", y, 0, 0, 0);
        broken("loaded, no parts, c 0", one(1, 0, 0), 0);
        broken("loaded, no parts, c below 0", one(1, 0, -1), 1);
        broken("loaded, not set", one(1, 0, -1, -1), 0);
        broken("loaded, values that no variable has", one(1, 0, -1, -1), 1, 0);
    }

    private static void atMost() {
        CrateHelpers x = one(3, 1, 3, 2, -1);
        broken("at most", x, 0);
        broken("at most", x, 0, 2);
        broken("at most", x, 1, 2, 0);
        broken("at most", x, 0, 2, 1);
        broken("at most, least is too much", one(3, 1, -3, 2, -1), 1);
        broken("at most, least is just c", one(3, 1, -2, 2, -1), 0);
        broken("at most, no parts", one(1, 1, -1), 1);
    }

    private static void atLeast() {
        CrateHelpers x = one(3, 2, 3, 2, -1);
        broken("at least", x, 0);
        broken("at least", x, 1, 1);
        broken("at least", x, 0, 2);
        broken("at least", x, 0, 2, 1);
        broken("at least", x, 1, 2, 2);
        broken("at least, greatest is too little", one(3, 2, 5, 2, -1), 1);
        broken("at least, no parts", one(1, 2, 1), 1);
        broken("at least, no parts, c 0", one(1, 2, 0), 0);
    }

    private static void just() {
        CrateHelpers x = one(3, 3, 3, 1, 1);
        broken("just", x, 0);
        broken("just", x, 1, 0);
        broken("just", x, 0, 1);
        broken("just", x, 0, 1, 2);
        broken("just", x, 1, 1, 1);
        broken("just", x, 1, 2, 2);
        broken("just, out of reach above", one(3, 3, 5, 1, 1), 1);
        broken("just, out of reach below", one(3, 3, -1, 1, 1), 1);
    }

    private static void unlikeAndFar() {
        CrateHelpers x = one(4, 4, 3, 1, 7, -2);
        broken("unlike", x, 0, 1);
        broken("unlike", x, 0, 1, 2);
        broken("unlike", x, 1, 1, 1);
        broken("unlike", x, 1, 1, 2, 1);
        broken("unlike, c is not looked at", x, 0, 1, 2, 3);
        CrateHelpers y = one(4, 5, 2, 1, 1, 1);
        broken("far", y, 1, 0, 1);
        broken("far", y, 1, 3, 2);
        broken("far", y, 0, 0, 2);
        broken("far", y, 1, 0, 3, 1);
        broken("far, c below 0, alike", one(4, 5, -3, 1, 1), 1, 2, 2);
        broken("far, c 0, not alike", one(4, 5, 0, 1, 1), 0, 2, 1);
        broken("far, c 0, alike", one(4, 5, 0, 1, 1), 1, 2, 2);
    }

    private static void rising() {
        CrateHelpers x = one(4, 6, 1, 1, 1, 1);
        broken("rising", x, 0, 2);
        broken("rising", x, 1, 2, 2);
        broken("rising", x, 0, 2, 3);
        broken("rising", x, 1, 0, 2, 1);
        broken("rising, c below 0", one(4, 6, -1, 1, 1), 0, 2, 1);
        broken("rising, c below 0", one(4, 6, -1, 1, 1), 1, 2, 0);
        CrateHelpers y = one(4, 6, 0);
        y.variable(0, 4, 3);
        y.variable(0, 4, 3);
        y.variable(0, 4, 3);
        y.part(0, 0, 1, 1);
        y.part(0, 0, 2, 1);
        y.part(0, 0, 0, 1);
        broken("rising, not next to each other", y, 0, 0, 3);
        broken("rising, in the order of parts", y, 1, 0, 3, 3);
        broken("rising, in the order of parts", y, 0, 3, 1, 2);
    }

    private static void enough() {
        CrateHelpers x = one(2, 7, 2, 1, 1, 0);
        broken("enough", x, 0);
        broken("enough", x, 0, 0);
        broken("enough", x, 1, 0, 0);
        broken("enough", x, 0, 1, 0);
        broken("enough", x, 0, 1, 0, 0);
        broken("enough", x, 1, 1, 0, 1);
        broken("enough, fewer parts than c", one(2, 7, 3, 1, 1), 1);
        broken("enough, weight that is no value", one(2, 7, 1, 9), 1, 1);
    }
}
