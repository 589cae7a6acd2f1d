/** Problems that several tests begin with, each problem 0 of a new object: the calls that make it. */
final class Samples {
    /** Two variables of two values that are not to be alike: that of none, [1] and [1, 0] are walked. */
    static final String PAIR = "problem(); variable(0, 2, 3); variable(0, 2, 3); cost(0, 0, 1, 1); cost(0, 1, 1, 5); "
        + "rule(0, 4, 0); part(0, 0, 0, 1); part(0, 0, 1, 1)";

    /** Two variables of one value that are not to be alike: that of none is open, and nothing below it. */
    static final String CRAMPED = "problem(); variable(0, 1, 0); variable(0, 1, 0); rule(0, 4, 0); part(0, 0, 0, 1); part(0, 0, 1, 1)";

    /** No sum of even numbers is 15: no full row is open, and many others are. */
    static final String ODD = odd(15, 6, 6, 6, 6, 6, 6) + "; cost(0, 1, 5, 1); cost(0, 2, 5, 2); cost(0, 3, 5, 3); cost(0, 4, 5, 4); cost(0, 5, 5, 5)";

    private Samples() {
    }

    static CrateHelpers pair() {
        return made(PAIR);
    }

    static CrateHelpers odd() {
        return made(ODD);
    }

    static CrateHelpers cramped() {
        return made(CRAMPED);
    }

    /** Variables of so many values; the sum of all, each twice, is to be an odd number: nothing is found. */
    static String odd(int sum, int... sizes) {
        return summed(sum, 2, sizes);
    }

    /** Likewise, but the last variable counts once, and its value 1 is dear: found as all that is cheaper was taken. */
    static String dear(int sum, int... sizes) {
        return summed(sum, 1, sizes) + "; cost(0, " + (sizes.length - 1) + ", 1, 9)";
    }

    private static String summed(int sum, int lastWeight, int... sizes) {
        StringBuilder calls = new StringBuilder("problem(); rule(0, 3, " + sum + ")");
        for (int i = 0; i < sizes.length; i++) {
            int weight = i == sizes.length - 1 ? lastWeight : 2;
            calls.append("; variable(0, ").append(sizes[i]).append(", 3); part(0, 0, ").append(i).append(", ").append(weight).append(")");
        }
        return calls.toString();
    }

    private static CrateHelpers made(String calls) {
        CrateHelpers x = new CrateHelpers();
        for (String call : calls.split("; ")) {
            Run.answer(x, call);
        }
        return x;
    }
}
