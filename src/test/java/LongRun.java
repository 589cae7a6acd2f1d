import java.util.ArrayList;
import java.util.List;
import java.util.Map;
import java.util.Random;

/** One run of LongRunsTest: what it does next hangs on its seed, and on whether a solving is under way. */
final class LongRun {
    private static final int NONE = CrateHelpers.NONE;
    private static final int STATE = CrateHelpers.STATE;
    private static final int NO_COST = -1000000;
    private static final String[] OUTCOMES = {"", "FOUND", "NOTHING", "LIMITED", "LARGE"};

    /** What the run knows of a problem, so that most of its calls are of things that are there. */
    private static final class Known {
        final List<Integer> sizes = new ArrayList<>();
        int rules = 0;
        boolean hasEnded = false;
        boolean isChanged = false;
    }

    private final Random random;
    private final Beside x;
    private final Map<String, Integer> met;
    private final List<Known> problems = new ArrayList<>();
    private int wide = NONE;
    private int underWay = NONE;
    private int endedLast = NONE;
    private boolean isGivenUp = false;

    LongRun(int seed, Check check, Map<String, Integer> met) {
        random = new Random(seed);
        x = new Beside(check, "seed " + seed);
        this.met = met;
    }

    void go() {
        int first = 1 + random.nextInt(3);
        for (int i = 0; i < first; i++) {
            build();
        }
        while (!x.isUsedUp()) {
            if (underWay == NONE) {
                between();
            } else {
                amidst();
            }
        }
    }

    private void met(String event) {
        met.merge(event, 1, Integer::sum);
    }

    private int below(int n) {
        return random.nextInt(Math.max(1, n));
    }

    private boolean oneIn(int n) {
        return random.nextInt(n) == 0;
    }

    // ---- problems

    private void build() {
        int p = x.call("problem");
        Known known = new Known();
        problems.add(known);
        if (oneIn(3)) {
            buildWide(p, known);
            wide = p;
            return;
        }
        int variables = 2 + below(5);
        int size = 2 + below(5);
        for (int i = 0; i < variables; i++) {
            int n = oneIn(4) ? 1 + below(6) : size;
            known.sizes.add(n);
            x.call("variable", p, n, below(4));
        }
        int costs = below(3) * variables;
        for (int i = 0; i < costs; i++) {
            setCost(p);
        }
        int rules = 1 + below(2);
        for (int i = 0; i < rules; i++) {
            addRule(p, known);
        }
    }

    /** An odd sum of even numbers: many rows are open, and none that is full, until a weight is odd. */
    private void buildWide(int p, Known known) {
        x.call("rule", p, 3, 11 + 2 * below(4));
        known.rules++;
        for (int i = 0; i < 6; i++) {
            int n = 5 + below(2);
            known.sizes.add(n);
            x.call("variable", p, n, 3);
            x.call("cost", p, i, below(n), 1 + below(3));
            x.call("part", p, 0, i, i == 5 && oneIn(3) ? 1 : 2);
        }
    }

    /** Numbers are such that most rules can be kept, and not by the first row that comes. */
    private void addRule(int p, Known known) {
        int kind = below(8);
        int most = known.sizes.size();
        int[] numbers = {2 + below(6), 2 + below(8), 2 + below(4 * most), 5 + below(3 * most), 0, below(3), below(2), 1 + below(3)};
        int rule = x.call("rule", p, kind, numbers[kind]);
        known.rules++;
        boolean isEven = kind == 3 && oneIn(2);
        for (int i = 0; i < most; i++) {
            boolean isPart = kind < 4 || oneIn(2);
            int weight = isEven ? 2 : kind == 7 ? below(3) : oneIn(6) ? -1 : 1 + below(3);
            if (isPart) {
                x.call("part", p, rule, i, weight);
            }
        }
    }

    private int setCost(int p) {
        Known known = problems.get(p);
        int variable = below(known.sizes.size());
        int v = oneIn(12) ? random.nextInt(200001) - 100000 : below(9) - 2;
        return x.call("cost", p, variable, below(known.sizes.get(variable)), v);
    }

    private void change() {
        int p = below(problems.size());
        Known known = problems.get(p);
        int answer;
        switch (below(8)) {
            case 0: answer = x.call("part", p, below(known.rules), below(known.sizes.size()), below(5) - 1); break;
            case 1: case 2: answer = x.call("number", p, below(known.rules), below(12)); break;
            case 3:
                answer = x.call("variable", p, 1 + below(3), below(4));
                if (answer >= 0) {
                    known.sizes.add(x.call("about", p, 5, answer));
                }
                break;
            case 4:
                answer = oneIn(4) ? x.call("rule", p, 4 + below(4), 0) : setCost(p);
                known.rules = Math.max(known.rules, x.call("about", p, 1, 0));
                break;
            default: answer = setCost(p); break;
        }
        if (isRefused(answer)) {
            met(underWay == NONE ? "a change was refused otherwise" : "a change was refused under way");
            return;
        }
        if (known.hasEnded) {
            met("a problem changed behind its end");
            x.call("told", p, below(6));
            x.call("answer", p, below(known.sizes.size()));
        }
        known.hasEnded = false;
        known.isChanged = true;
    }

    private static boolean isRefused(int answer) {
        return answer == NO_COST || answer == CrateHelpers.BAD || answer == STATE || answer == CrateHelpers.FULL;
    }

    // ---- what a run does

    private void between() {
        switch (below(14)) {
            case 0: case 1: change(); break;
            case 2: team(); break;
            case 3: case 4: case 5: begin(); break;
            case 6: tellEnded(); break;
            case 7: x.call("giveUp"); break;
            case 8: tellAll(); break;
            case 9: wrong(); break;
            case 10:
                if (wide != NONE && x.calls() < 300) {
                    goAhead(wide);
                }
                break;
            default: question("between"); break;
        }
    }

    private void amidst() {
        switch (below(12)) {
            case 0: change(); break;
            case 1: x.call("helpers", 1 + below(5)); x.call("plain"); x.call("limit", below(9)); break;
            case 2: case 3: case 4: solve(underWay, 1 + below(15)); break;
            case 5: solve(underWay, 500); break;
            case 6: giveUp(); break;
            case 7: tellUnderWay(); break;
            case 8: x.call("solve", below(problems.size() + 1), 0); tellEnded(); break;
            case 9: wrong(); break;
            default: question("under way"); break;
        }
    }

    private void team() {
        switch (below(4)) {
            case 0: x.call("helpers", 1 + below(5)); break;
            case 1: x.call("fail", below(5), 1 + below(4)); break;
            case 2: x.call("limit", oneIn(2) ? 0 : 1 + below(oneIn(3) ? 260 : 12)); break;
            default:
                schedule();
                break;
        }
    }

    private void schedule() {
        x.call("plain");
        int turns = below(8);
        for (int i = 0; i < turns; i++) {
            x.call("turn", below(5));
        }
    }

    /** One helper goes ahead of others that have a node each and wait. */
    private void goAhead(int p) {
        x.call("plain");
        x.call("helpers", 2 + below(4));
        int[] first = {0, 0, 1, 2, 3, 4};
        int turns = 64 + below(20);
        for (int i = 0; i < turns; i++) {
            x.call("turn", i < first.length ? first[i] : 0);
        }
        solve(p, 60 + below(40));
    }

    private void begin() {
        int p = below(problems.size());
        Known known = problems.get(p);
        if (isGivenUp) {
            met("a solving began behind one given up");
        } else if (known.isChanged) {
            met("a solving began behind a change");
        } else if (known.hasEnded) {
            met("a solving began again unchanged");
        }
        isGivenUp = false;
        known.isChanged = false;
        solve(p, oneIn(4) ? 500 : 1 + below(oneIn(3) ? 150 : 20));
    }

    private void solve(int p, int turns) {
        boolean wasUnderWay = underWay != NONE;
        int result = x.call("solve", p, turns);
        if (result < 0) {
            return;
        }
        if (result == CrateHelpers.STOPPED) {
            met(wasUnderWay ? "a solving went on and stopped" : "a solving stopped");
            underWay = p;
            tellUnderWay();
            return;
        }
        met(OUTCOMES[result]);
        if (wasUnderWay) {
            met("a solving went on and ended");
        }
        underWay = NONE;
        endedLast = p;
        problems.get(p).hasEnded = true;
        tellEnded();
    }

    private void giveUp() {
        x.call("giveUp");
        met("a solving was given up");
        underWay = NONE;
        isGivenUp = true;
        tellEnded();
    }

    // ---- what is told

    private void tellEnded() {
        int p = below(problems.size());
        for (int what = 0; what < 6; what++) {
            x.call("told", p, what);
        }
        for (int i = 0; i < problems.get(p).sizes.size(); i++) {
            x.call("answer", p, i);
        }
        int i = oneIn(3) ? below(250) : below(6);
        for (int what = 0; what < 10; what++) {
            x.call("walked", i, what);
        }
        int v = below(6);
        x.call("closed", i, v, 0);
        x.call("closed", i, v, 1);
        if (endedLast != NONE && endedLast != p) {
            met("walked told of another problem");
        }
        tellHelpers();
    }

    private void tellHelpers() {
        int helper = below(5);
        x.call("helper", helper, 0);
        if (x.call("helper", helper, 1) > 0) {
            met("an idle turn");
        }
        if (x.call("helper", helper, 2) > 0) {
            met("a helper was replaced");
        }
    }

    private void tellUnderWay() {
        x.call("count", 4);
        x.call("count", 5);
        if (x.call("count", 6) - x.call("count", 7) >= 30) {
            met("thirty were done ahead");
        }
        tellHelpers();
    }

    private void tellAll() {
        for (int what = 0; what < 8; what++) {
            x.call("count", what);
        }
        int p = below(problems.size());
        for (int what = 0; what < 7; what++) {
            x.call("about", p, what, below(6));
        }
        x.call("costs", p, below(6), below(6));
        x.call("status");
    }

    // ---- questions

    private void question(String when) {
        switch (below(4)) {
            case 0: row(when); break;
            case 1:
                x.call("same", below(problems.size()), 1 + below(5));
                met("same " + when);
                break;
            case 2: node(when); break;
            default:
                ask(when);
                if (oneIn(3)) {
                    change();
                    if (x.call("node", below(5), 0, 0) == STATE) {
                        met("node behind a change");
                    }
                }
                break;
        }
    }

    private void row(String when) {
        int cost = x.call("second", below(problems.size()), oneIn(2) ? below(3) : below(61));
        met("second " + when);
        met(cost == NO_COST ? "second found none" : cost == NO_COST - 1 ? "second came too far" : "second found one");
        if (x.call("row", below(7)) == NONE) {
            met("row of none");
        }
        x.call("row", 0);
        met("row " + when);
    }

    private void ask(String when) {
        int p = below(problems.size());
        Known known = problems.get(p);
        x.call("ask", p);
        met("ask " + when);
        int values = below(known.sizes.size() + 1);
        for (int i = 0; i < values; i++) {
            x.call("with", below(known.sizes.get(i)));
            met("with " + when);
        }
        node(when);
    }

    private void node(String when) {
        for (int what = 0; what < 5; what++) {
            x.call("node", what, below(4), below(4));
        }
        met("node " + when);
    }

    private void wrong() {
        int off = oneIn(2) ? -1 - below(3) : 6 + below(1100);
        switch (below(8)) {
            case 0: x.call("cost", 0, 0, off, 1); x.call("status"); break;
            case 1: x.call("number", 0, off, 1); x.call("status"); break;
            case 2: x.call("about", off, 0, 0); x.call("status"); break;
            case 3: x.call("with", off); x.call("node", 2, off, off); break;
            case 4: x.call("second", off, 0); x.call("row", 0); x.call("row", off); break;
            case 5: x.call("ask", off); x.call("node", off, 0, 0); break;
            case 6: x.call("same", 0, off); x.call("solve", off, 1); break;
            default: x.call("turn", off); x.call("fail", off, 0); x.call("told", 0, off); x.call("walked", off, off); break;
        }
    }
}
