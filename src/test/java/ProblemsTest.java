/** Promises 1 to 7: a new object, and how problems are made and changed. */
public final class ProblemsTest {
    private static final int BAD = CrateHelpers.BAD, STATE = CrateHelpers.STATE, FULL = CrateHelpers.FULL;
    private static final int REFUSED = -1000000;
    private static final int[] WRONG = {Integer.MIN_VALUE, -1, 1, 5, Integer.MAX_VALUE};
    private static final Check CHECK = new Check("ProblemsTest");

    public static void main(String[] args) {
        newObject();
        problems();
        variables();
        costs();
        rules();
        parts();
        numbers();
        whileUnderWay();
        CHECK.end();
    }

    private static void newObject() {
        CrateHelpers x = new CrateHelpers();
        CHECK.due("problems of a new object", x.count(0), 0);
        CHECK.due("limit of a new object", x.count(1), 0);
        CHECK.due("helpers of a new object", x.count(2), 1);
        CHECK.due("schedule of a new object", x.count(3), 0);
        CHECK.due("under way in a new object", x.count(4), CrateHelpers.NONE);
        CHECK.due("status of a new object", x.status(), 0);
        CHECK.due("walked of a new object", x.walked(0, 0), CrateHelpers.NONE);
        CHECK.due("row of a new object", x.row(0), CrateHelpers.NONE);
    }

    private static void problems() {
        CrateHelpers x = new CrateHelpers();
        for (int i = 0; i < 5; i++) {
            CHECK.due("problem()", x.problem(), i);
        }
        CHECK.due("sixth problem()", x.problem(), FULL);
        CHECK.due("problems", x.count(0), 5);
    }

    private static void variables() {
        CrateHelpers x = new CrateHelpers();
        CHECK.due("variable of no problem", x.variable(0, 3, 0), BAD);
        x.problem();
        for (int wrong : WRONG) {
            CHECK.due("variable of problem " + wrong, x.variable(wrong, 3, 0), BAD);
        }
        CHECK.due("of 0 values", x.variable(0, 0, 0), BAD);
        CHECK.due("of 7 values", x.variable(0, 7, 0), BAD);
        CHECK.due("of kind -1", x.variable(0, 3, -1), BAD);
        CHECK.due("of kind 4", x.variable(0, 3, 4), BAD);
        for (int i = 0; i < 6; i++) {
            CHECK.due("variable", x.variable(0, i + 1, i % 4), i);
            CHECK.due("its values", x.about(0, 5, i), i + 1);
            CHECK.due("its kind", x.about(0, 6, i), i % 4);
            CHECK.due("its first cost", x.costs(0, i, i), 0);
        }
        CHECK.due("seventh variable", x.variable(0, 3, 0), FULL);
        CHECK.due("seventh variable of 7 values", x.variable(0, 7, 0), BAD);
        CHECK.due("another problem's first", x.problem() + x.variable(1, 1, 3), 1);
    }

    private static void costs() {
        CrateHelpers x = new CrateHelpers();
        x.problem();
        int[][] told = {{127, 128, -129, 100000}, {32767, 32768, -32769, -100000}, {65535, 65536, -1, 100000}, {100000, -100000, 0, 7}};
        for (int kind = 0; kind < 4; kind++) {
            x.variable(0, 4, kind);
            for (int i = 0; i < 4; i++) {
                int v = told[kind][i];
                int kept = kind == 0 ? (byte) v : kind == 1 ? (short) v : kind == 2 ? (char) v : v;
                CHECK.due("cost " + v + " in a row of kind " + kind, x.cost(0, kind, i, v), kept);
                CHECK.due("status", x.status(), 0);
                CHECK.due("costs()", x.costs(0, kind, i), kept);
            }
        }
        CHECK.due("byte 128", x.costs(0, 0, 1), -128);
        CHECK.due("char -1", x.costs(0, 2, 2), 65535);
        int[][] wrong = {{-1, 0, 0, 0}, {1, 0, 0, 0}, {0, 4, 0, 0}, {0, -1, 0, 0}, {0, 0, 4, 0}, {0, 0, -1, 0}, {0, 0, 0, 100001}, {0, 0, 0, -100001}};
        for (int[] w : wrong) {
            x.about(0, 0, 0);
            CHECK.due("cost that is bad", x.cost(w[0], w[1], w[2], w[3]), REFUSED);
            CHECK.due("status of it", x.status(), BAD);
        }
        CHECK.due("nothing changed", x.costs(0, 0, 0), 127);
    }

    private static void rules() {
        CrateHelpers x = new CrateHelpers();
        x.problem();
        CHECK.due("rule of no problem", x.rule(1, 0, 0), BAD);
        CHECK.due("rule of kind -1", x.rule(0, -1, 0), BAD);
        CHECK.due("rule of kind 8", x.rule(0, 8, 0), BAD);
        CHECK.due("rule of number 1001", x.rule(0, 0, 1001), BAD);
        CHECK.due("rule of number -1001", x.rule(0, 0, -1001), BAD);
        for (int i = 0; i < 8; i++) {
            int c = i % 2 == 0 ? 1000 : -1000;
            CHECK.due("rule", x.rule(0, i, c), i);
            CHECK.due("its kind", x.about(0, 2, i), i);
            CHECK.due("its number", x.about(0, 3, i), c);
            CHECK.due("its parts", x.about(0, 4, i), 0);
        }
        CHECK.due("ninth rule", x.rule(0, 0, 0), FULL);
        CHECK.due("ninth rule that is bad", x.rule(0, 8, 0), BAD);
    }

    private static void parts() {
        CrateHelpers x = new CrateHelpers();
        x.problem();
        x.variable(0, 2, 0);
        x.variable(0, 2, 0);
        x.rule(0, 1, 0);
        x.rule(0, 1, 0);
        CHECK.due("part", x.part(0, 0, 1, 50), 1);
        CHECK.due("second part", x.part(0, 0, 0, -50), 2);
        CHECK.due("part of another rule", x.part(0, 1, 1, 0), 1);
        CHECK.due("part again", x.part(0, 0, 1, 3), STATE);
        CHECK.due("part again that is bad", x.part(0, 0, 1, 51), BAD);
        CHECK.due("parts", x.about(0, 4, 0), 2);
        int[][] wrong = {{1, 0, 0, 0}, {-1, 0, 0, 0}, {0, 2, 0, 0}, {0, -1, 0, 0}, {0, 1, 2, 0}, {0, 1, -1, 0}, {0, 1, 0, 51}, {0, 1, 0, -51}};
        for (int[] w : wrong) {
            CHECK.due("part that is bad", x.part(w[0], w[1], w[2], w[3]), BAD);
        }
        CHECK.due("parts of the other rule", x.about(0, 4, 1), 1);
        x.ask(0);
        x.with(1);
        x.number(0, 0, -50);
        x.ask(0);
        x.with(0);
        x.with(1);
        CHECK.due("weight counts by variable", x.node(0, 0, 0), 1);
        x.ask(0);
        x.with(1);
        x.with(0);
        CHECK.due("weight counts by variable", x.node(0, 0, 0), 0);
    }

    private static void numbers() {
        CrateHelpers x = new CrateHelpers();
        x.problem();
        x.rule(0, 1, 5);
        CHECK.due("number", x.number(0, 0, -1000), 5);
        CHECK.due("number again", x.number(0, 0, 1000), -1000);
        CHECK.due("status", x.status(), 0);
        int[][] wrong = {{1, 0, 0}, {-1, 0, 0}, {0, 1, 0}, {0, -1, 0}, {0, 0, 1001}, {0, 0, -1001}};
        for (int[] w : wrong) {
            x.about(0, 0, 0);
            CHECK.due("number that is bad", x.number(w[0], w[1], w[2]), REFUSED);
            CHECK.due("status of it", x.status(), BAD);
        }
        CHECK.due("number is as it was", x.about(0, 3, 0), 1000);
    }

    private static void whileUnderWay() {
        CrateHelpers x = new CrateHelpers();
        for (int i = 0; i < 5; i++) {
            x.problem();
        }
        for (int i = 0; i < 6; i++) {
            x.variable(0, 2, 0);
        }
        for (int i = 0; i < 8; i++) {
            x.rule(0, 4, 0);
        }
        CHECK.due("a solving begins", x.solve(0, 1), CrateHelpers.STOPPED);
        CHECK.due("problem(), full and under way", x.problem(), STATE);
        CHECK.due("variable(), full and under way", x.variable(0, 2, 0), STATE);
        CHECK.due("variable() of another problem", x.variable(1, 2, 0), STATE);
        CHECK.due("variable(), bad and under way", x.variable(0, 9, 0), BAD);
        CHECK.due("rule(), full and under way", x.rule(0, 0, 0), STATE);
        CHECK.due("rule(), bad and under way", x.rule(0, 9, 0), BAD);
        CHECK.due("part()", x.part(0, 0, 0, 0), STATE);
        CHECK.due("part(), bad", x.part(0, 0, 6, 0), BAD);
        CHECK.due("cost()", x.cost(0, 0, 0, 0), REFUSED);
        CHECK.due("status", x.status(), STATE);
        CHECK.due("cost(), bad", x.cost(0, 0, 0, 100001), REFUSED);
        CHECK.due("status", x.status(), BAD);
        CHECK.due("number()", x.number(0, 0, 0), REFUSED);
        CHECK.due("status", x.status(), STATE);
        CHECK.due("number(), bad", x.number(0, 8, 0), REFUSED);
        CHECK.due("status", x.status(), BAD);
        x.giveUp();
        CHECK.due("number() behind giveUp()", x.number(0, 0, 3), 0);
    }
}
