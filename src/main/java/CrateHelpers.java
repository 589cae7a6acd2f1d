import java.util.Arrays;

/** Crates are packed by helpers that search side by side; ../shared/DOC.md tells what each call promises. */
public final class CrateHelpers {
    public static final int BAD = -1, STATE = -2, FULL = -3, NONE = -9;
    public static final int STOPPED = 0, FOUND = 1, NOTHING = 2, LIMITED = 3, LARGE = 4;

    private static final int MOST_PROBLEMS = 5;
    private static final int MOST_VARIABLES = 6;
    private static final int MOST_VALUES = 6;
    private static final int MOST_RULES = 8;
    private static final int MOST_HELPERS = 5;
    private static final int MOST_SCHEDULED = 200;
    private static final int MOST_TURNS = 500;
    private static final int MOST_TAKEN = 250;
    private static final int MOST_DONE_AHEAD = 30;
    private static final int MOST_SECONDS = 60;

    // Helpers that hold a node when the thirtieth is done may still finish theirs.
    private static final int MOST_DONE = MOST_TAKEN + MOST_DONE_AHEAD + MOST_HELPERS;

    private static final int NO_COST = -1000000;
    private static final int TOO_FAR = -1000001;
    private static final int BAD_SECOND = -1000002;

    private static final int UNSET = -1;
    private static final int NO_NODE = -1;

    private static final int BYTES = 0, SHORTS = 1, CHARS = 2, INTS = 3;

    private static final int LOADED = 0, AT_MOST = 1, AT_LEAST = 2, JUST = 3;
    private static final int UNLIKE = 4, FAR = 5, RISING = 6, ENOUGH = 7;

    private static final int OPEN = 0, OUT_BY_A_RULE = 1, TWIN = 2, WITHOUT_A_WAY = 3;

    private static final int FREE = 0, HELD = 1, DONE = 2, TAKEN = 3;

    private static final int TOLD = 6;
    private static final int OUTCOME = TOLD + MOST_VARIABLES;

    private final Problem[] problems = new Problem[MOST_PROBLEMS];
    private int problemCount = 0;

    private final Team team = new Team();
    private int nodeLimit = 0;

    private final Solving solving;
    private int underWay = NONE;
    private Tree lastEnded;

    private int asked = NONE;
    private int askedAtChange = 0;
    private int askedDepth = 0;
    private final int[] askedValues = new int[MOST_VARIABLES];
    private final Judge judge = new Judge();

    private final Tree secondTree;
    private final int[] secondRow = new int[MOST_VARIABLES];

    private final Team likeTeam = new Team();
    private final int[] alone = new int[OUTCOME];
    private final int[] together = new int[OUTCOME];

    private int refusedBy = 0;

    public CrateHelpers() {
        for (int i = 0; i < MOST_PROBLEMS; i++) {
            problems[i] = new Problem();
        }
        solving = new Solving(problems[0], team);
        lastEnded = new Tree(problems[0], MOST_DONE);
        secondTree = new Tree(problems[0], MOST_TAKEN);
        Arrays.fill(askedValues, UNSET);
        Arrays.fill(secondRow, NONE);
    }

    // ---- problems

    public int problem() {
        if (underWay != NONE) {
            return STATE;
        }
        if (problemCount >= MOST_PROBLEMS) {
            return FULL;
        }
        return problemCount++;
    }

    public int variable(int problem, int n, int kind) {
        if (!isProblem(problem) || !isWithin(n, 1, MOST_VALUES) || !isWithin(kind, BYTES, INTS)) {
            return BAD;
        }
        if (underWay != NONE) {
            return STATE;
        }
        Problem p = problems[problem];
        return p.variables >= MOST_VARIABLES ? FULL : p.addVariable(n, kind);
    }

    public int cost(int problem, int variable, int value, int v) {
        if (!isProblem(problem) || !problems[problem].hasValue(variable, value) || !isWithin(v, -100000, 100000)) {
            return refuse(BAD);
        }
        if (underWay != NONE) {
            return refuse(STATE);
        }
        return grant(problems[problem].setCost(variable, value, v));
    }

    public int rule(int problem, int kind, int c) {
        if (!isProblem(problem) || !isWithin(kind, LOADED, ENOUGH) || !isRuleNumber(c)) {
            return BAD;
        }
        if (underWay != NONE) {
            return STATE;
        }
        Problem p = problems[problem];
        return p.ruleCount >= MOST_RULES ? FULL : p.addRule(kind, c);
    }

    public int part(int problem, int rule, int variable, int weight) {
        if (!isProblem(problem) || !isWithin(weight, -50, 50)) {
            return BAD;
        }
        Problem p = problems[problem];
        if (!p.hasRule(rule) || !p.hasVariable(variable)) {
            return BAD;
        }
        if (underWay != NONE || p.rules[rule].isPart[variable]) {
            return STATE;
        }
        return p.addPart(rule, variable, weight);
    }

    public int number(int problem, int rule, int c) {
        if (!isProblem(problem) || !problems[problem].hasRule(rule) || !isRuleNumber(c)) {
            return refuse(BAD);
        }
        if (underWay != NONE) {
            return refuse(STATE);
        }
        return grant(problems[problem].setNumber(rule, c));
    }

    // ---- helpers

    public int helpers(int n) {
        if (!isWithin(n, 1, MOST_HELPERS)) {
            return BAD;
        }
        if (underWay != NONE) {
            return STATE;
        }
        int before = team.size;
        team.become(n);
        return before;
    }

    public int fail(int helper, int k) {
        if (!isWithin(helper, 0, team.size - 1) || !isWithin(k, 0, 200)) {
            return BAD;
        }
        if (underWay != NONE) {
            return STATE;
        }
        team.failAt[helper] = k;
        return 1;
    }

    public int turn(int helper) {
        if (!isWithin(helper, 0, MOST_HELPERS - 1)) {
            return BAD;
        }
        if (underWay != NONE) {
            return STATE;
        }
        if (team.scheduled >= MOST_SCHEDULED) {
            return FULL;
        }
        team.schedule[team.scheduled] = helper;
        team.scheduled++;
        return team.scheduled;
    }

    public int plain() {
        if (underWay != NONE) {
            return STATE;
        }
        int before = team.scheduled;
        team.scheduled = 0;
        return before;
    }

    public int limit(int n) {
        if (!isWithin(n, 0, 1000)) {
            return BAD;
        }
        if (underWay != NONE) {
            return STATE;
        }
        int before = nodeLimit;
        nodeLimit = n;
        return before;
    }

    // ---- solving

    public int solve(int problem, int turns) {
        if (!isProblem(problem) || !isWithin(turns, 1, MOST_TURNS)) {
            return BAD;
        }
        if (underWay != NONE && underWay != problem) {
            return STATE;
        }
        int result = STOPPED;
        if (underWay == NONE) {
            underWay = problem;
            result = solving.begin(problems[problem], team, nodeLimit);
        }
        for (int i = 0; i < turns && result == STOPPED; i++) {
            result = solving.takeTurn();
        }
        if (result != STOPPED) {
            endSolving(result);
        }
        return result;
    }

    public int giveUp() {
        if (underWay == NONE) {
            return STATE;
        }
        int given = underWay;
        underWay = NONE;
        return given;
    }

    public int told(int problem, int what) {
        if (!isProblem(problem) || !isWithin(what, 0, TOLD - 1)) {
            return BAD;
        }
        Problem p = problems[problem];
        return p.hasEnded ? p.outcome[what] : NONE;
    }

    public int answer(int problem, int variable) {
        if (!isProblem(problem) || !problems[problem].hasVariable(variable)) {
            return BAD;
        }
        Problem p = problems[problem];
        return p.hasEnded ? p.outcome[TOLD + variable] : NONE;
    }

    public int walked(int i, int what) {
        if (!isWithin(what, 0, 9)) {
            return BAD;
        }
        if (!isWithin(i, 0, lastEnded.taken - 1)) {
            return NONE;
        }
        int id = lastEnded.walk[i];
        switch (what) {
            case 0: return lastEnded.depth[id];
            case 7: return lastEnded.boundOf(id);
            case 8: return lastEnded.doneBy[id];
            case 9: return lastEnded.openBelow(id);
            default: return what <= lastEnded.depth[id] ? lastEnded.valueOf(id, what - 1) : NONE;
        }
    }

    public int closed(int i, int v, int what) {
        if (!isWithin(what, 0, 1)) {
            return BAD;
        }
        if (!isWithin(i, 0, lastEnded.taken - 1)) {
            return NONE;
        }
        int below = lastEnded.below(lastEnded.walk[i], v);
        if (below == NO_NODE) {
            return NONE;
        }
        return what == 0 ? lastEnded.what[below] : lastEnded.why[below];
    }

    public int helper(int helper, int what) {
        if (!isWithin(helper, 0, MOST_HELPERS - 1)) {
            return BAD;
        }
        switch (what) {
            case 0: return team.done[helper];
            case 1: return team.idle[helper];
            case 2: return team.replaced[helper];
            default: return BAD;
        }
    }

    // ---- what holds

    public int ask(int problem) {
        if (!isProblem(problem)) {
            return BAD;
        }
        asked = problem;
        askedAtChange = problems[problem].changes;
        askedDepth = 0;
        Arrays.fill(askedValues, UNSET);
        return problems[problem].variables;
    }

    public int with(int value) {
        if (asked == NONE || !problems[asked].hasValue(askedDepth, value)) {
            return BAD;
        }
        askedValues[askedDepth] = value;
        askedDepth++;
        return askedDepth;
    }

    public int node(int what, int i, int j) {
        if (!isWithin(what, 0, 4)) {
            return BAD;
        }
        if (asked == NONE || problems[asked].changes != askedAtChange) {
            return STATE;
        }
        Problem p = problems[asked];
        if (what == 0) {
            return p.hasRule(i) ? asNumber(p.rules[i].isBroken(askedValues, p.sizes)) : BAD;
        }
        if (what == 1) {
            return p.hasValue(i, j) ? asNumber(p.isOut(askedValues, i, j)) : BAD;
        }
        judge.look(p, askedValues, askedDepth, true);
        if (what == 2) {
            return judge.what;
        }
        return what == 3 ? judge.bound : judge.why;
    }

    public int second(int problem, int k) {
        if (!isProblem(problem) || !isWithin(k, 0, MOST_SECONDS)) {
            return BAD_SECOND;
        }
        Arrays.fill(secondRow, NONE);
        secondTree.plant(problems[problem], false);
        int toPass = k;
        for (int i = 0; i < MOST_TAKEN; i++) {
            int next = secondTree.nextOfWalk();
            if (next == NO_NODE) {
                return NO_COST;
            }
            secondTree.finish(next, 0);
            secondTree.take(next);
            if (secondTree.isFull(next)) {
                if (toPass == 0) {
                    secondTree.copyValues(next, secondRow, 0);
                    return secondTree.boundOf(next);
                }
                toPass--;
            }
        }
        return secondTree.nextOfWalk() == NO_NODE ? NO_COST : TOO_FAR;
    }

    public int row(int i) {
        return isWithin(i, 0, MOST_VARIABLES - 1) ? secondRow[i] : NONE;
    }

    public int same(int problem, int helpers) {
        if (!isProblem(problem) || !isWithin(helpers, 1, MOST_HELPERS)) {
            return BAD;
        }
        if (underWay != NONE) {
            return STATE;
        }
        // Between solvings the tree of the next one is free: what is solved in it here is told of nowhere.
        for (int round = 0; round < 2; round++) {
            likeTeam.become(round == 0 ? 1 : helpers);
            int result = solving.begin(problems[problem], likeTeam, nodeLimit);
            // Without a schedule and failures each round of turns brings the walk on: the bound is never met.
            for (int i = 0; i < 1000000 && result == STOPPED; i++) {
                result = solving.takeTurn();
            }
            solving.sumUp(result, round == 0 ? alone : together);
        }
        return asNumber(isSameOutcome());
    }

    // ---- what is told

    public int count(int what) {
        boolean isUnderWay = underWay != NONE;
        switch (what) {
            case 0: return problemCount;
            case 1: return nodeLimit;
            case 2: return team.size;
            case 3: return team.scheduled;
            case 4: return underWay;
            case 5: return isUnderWay ? solving.tree.known : 0;
            case 6: return isUnderWay ? solving.tree.done : 0;
            case 7: return isUnderWay ? solving.tree.taken : 0;
            default: return BAD;
        }
    }

    public int about(int problem, int what, int i) {
        if (!isProblem(problem) || !isWithin(what, 0, 6)) {
            return refuse(BAD);
        }
        Problem p = problems[problem];
        if (what == 0) {
            return grant(p.variables);
        }
        if (what == 1) {
            return grant(p.ruleCount);
        }
        if (what <= 4) {
            return p.hasRule(i) ? grant(p.rules[i].tell(what)) : refuse(BAD);
        }
        if (!p.hasVariable(i)) {
            return refuse(BAD);
        }
        return grant(what == 5 ? p.sizes[i] : p.kinds[i]);
    }

    public int costs(int problem, int variable, int value) {
        if (!isProblem(problem) || !problems[problem].hasValue(variable, value)) {
            return refuse(BAD);
        }
        return grant(problems[problem].prices[variable][value]);
    }

    public int status() {
        return refusedBy;
    }

    private boolean isProblem(int problem) {
        return isWithin(problem, 0, problemCount - 1);
    }

    private static boolean isWithin(int n, int least, int most) {
        return n >= least && n <= most;
    }

    private static boolean isRuleNumber(int c) {
        return isWithin(c, -1000, 1000);
    }

    private static int asNumber(boolean holds) {
        return holds ? 1 : 0;
    }

    private int refuse(int by) {
        refusedBy = by;
        return NO_COST;
    }

    private int grant(int told) {
        refusedBy = 0;
        return told;
    }

    private void endSolving(int result) {
        if (!isProblem(underWay)) {
            return;
        }
        Problem p = problems[underWay];
        solving.sumUp(result, p.outcome);
        p.hasEnded = true;
        // The tree before last is nobody's by now: the next solving grows in it.
        Tree spare = lastEnded;
        lastEnded = solving.tree;
        solving.tree = spare;
        underWay = NONE;
    }

    private boolean isSameOutcome() {
        boolean isSame = true;
        for (int i = 0; i < OUTCOME; i++) {
            boolean hangsOnHelpers = i == 2 || i == 3;
            isSame = isSame && (hangsOnHelpers || alone[i] == together[i]);
        }
        return isSame;
    }

    /** A rule over some variables; those that are not set have the value UNSET. */
    private static final class Rule {
        int kind = LOADED;
        int c = 0;
        int parts = 0;
        final int[] variables = new int[MOST_VARIABLES];
        final int[] weights = new int[MOST_VARIABLES];
        final boolean[] isPart = new boolean[MOST_VARIABLES];
        final int[] weightOf = new int[MOST_VARIABLES];

        void add(int variable, int weight) {
            variables[parts] = variable;
            weights[parts] = weight;
            isPart[variable] = true;
            weightOf[variable] = weight;
            parts++;
        }

        int tell(int what) {
            if (what == 2) {
                return kind;
            }
            return what == 3 ? c : parts;
        }

        boolean isBroken(int[] values, int[] sizes) {
            switch (kind) {
                case LOADED: return isOverloaded(values);
                case AT_MOST: return leastSum(values, sizes) > c;
                case AT_LEAST: return greatestSum(values, sizes) < c;
                case JUST: return leastSum(values, sizes) > c || greatestSum(values, sizes) < c;
                case UNLIKE: return hasNear(values, 1);
                case FAR: return hasNear(values, Math.max(1, c));
                case RISING: return hasStepBelow(values);
                case ENOUGH: return willing(values) < c;
                default: return false;
            }
        }

        private boolean isOverloaded(int[] values) {
            int relief = 0;
            for (int i = 0; i < parts; i++) {
                if (values[variables[i]] == UNSET) {
                    relief += Math.min(0, weights[i]);
                }
            }
            for (int value = 0; value < MOST_VALUES; value++) {
                int load = relief;
                for (int i = 0; i < parts; i++) {
                    if (values[variables[i]] == value) {
                        load += weights[i];
                    }
                }
                if (load > c) {
                    return true;
                }
            }
            return false;
        }

        private int leastSum(int[] values, int[] sizes) {
            int sum = 0;
            for (int i = 0; i < parts; i++) {
                int value = values[variables[i]];
                int most = sizes[variables[i]] - 1;
                sum += value == UNSET ? Math.min(0, weights[i] * most) : weights[i] * value;
            }
            return sum;
        }

        private int greatestSum(int[] values, int[] sizes) {
            int sum = 0;
            for (int i = 0; i < parts; i++) {
                int value = values[variables[i]];
                int most = sizes[variables[i]] - 1;
                sum += value == UNSET ? Math.max(0, weights[i] * most) : weights[i] * value;
            }
            return sum;
        }

        private boolean hasNear(int[] values, int apart) {
            for (int i = 0; i < parts; i++) {
                int one = values[variables[i]];
                for (int j = i + 1; j < parts && one != UNSET; j++) {
                    int other = values[variables[j]];
                    if (other != UNSET && Math.abs(one - other) < apart) {
                        return true;
                    }
                }
            }
            return false;
        }

        private boolean hasStepBelow(int[] values) {
            for (int i = 1; i < parts; i++) {
                int earlier = values[variables[i - 1]];
                int later = values[variables[i]];
                if (earlier != UNSET && later != UNSET && later < earlier + c) {
                    return true;
                }
            }
            return false;
        }

        private int willing(int[] values) {
            int sum = 0;
            for (int i = 0; i < parts; i++) {
                int value = values[variables[i]];
                if (value == UNSET || value == weights[i]) {
                    sum++;
                }
            }
            return sum;
        }

        boolean treatsAlike(int a, int b) {
            if (!isPart[a] && !isPart[b]) {
                return true;
            }
            return kind != RISING && isPart[a] && isPart[b] && weightOf[a] == weightOf[b];
        }
    }

    /** Variables with values that cost, the rules over them, and what the latest ended solving came to. */
    private static final class Problem {
        int variables = 0;
        int ruleCount = 0;
        int changes = 0;
        boolean hasEnded = false;
        final int[] sizes = new int[MOST_VARIABLES];
        final int[] kinds = new int[MOST_VARIABLES];
        final int[][] prices = new int[MOST_VARIABLES][MOST_VALUES];
        final Rule[] rules = new Rule[MOST_RULES];
        final int[] outcome = new int[OUTCOME];

        Problem() {
            for (int i = 0; i < MOST_RULES; i++) {
                rules[i] = new Rule();
            }
        }

        boolean hasVariable(int variable) {
            return variable >= 0 && variable < variables;
        }

        boolean hasValue(int variable, int value) {
            return hasVariable(variable) && value >= 0 && value < sizes[variable];
        }

        boolean hasRule(int rule) {
            return rule >= 0 && rule < ruleCount;
        }

        private void change() {
            changes++;
            hasEnded = false;
        }

        int addVariable(int n, int kind) {
            change();
            sizes[variables] = n;
            kinds[variables] = kind;
            return variables++;
        }

        int setCost(int variable, int value, int v) {
            change();
            int kept = v;
            switch (kinds[variable]) {
                case BYTES: kept = (byte) v; break;
                case SHORTS: kept = (short) v; break;
                case CHARS: kept = (char) v; break;
                default: break;
            }
            prices[variable][value] = kept;
            return kept;
        }

        int addRule(int kind, int c) {
            change();
            rules[ruleCount].kind = kind;
            rules[ruleCount].c = c;
            return ruleCount++;
        }

        int addPart(int rule, int variable, int weight) {
            change();
            rules[rule].add(variable, weight);
            return rules[rule].parts;
        }

        int setNumber(int rule, int c) {
            change();
            int before = rules[rule].c;
            rules[rule].c = c;
            return before;
        }

        int firstBroken(int[] values) {
            for (int i = 0; i < ruleCount; i++) {
                if (rules[i].isBroken(values, sizes)) {
                    return i;
                }
            }
            return NONE;
        }

        boolean isOut(int[] values, int variable, int value) {
            if (values[variable] != UNSET) {
                return false;
            }
            values[variable] = value;
            boolean isOut = firstBroken(values) != NONE;
            values[variable] = UNSET;
            return isOut;
        }

        /** The least cost of a value that is not out (NO_COST: all are), where no rule is broken yet. */
        int leastCost(int[] values, int variable) {
            int least = NO_COST;
            for (int value = 0; value < sizes[variable]; value++) {
                values[variable] = value;
                boolean isOut = false;
                // A rule that the variable is no part of stays as it is, that is not broken.
                for (int i = 0; i < ruleCount && !isOut; i++) {
                    isOut = rules[i].isPart[variable] && rules[i].isBroken(values, sizes);
                }
                if (!isOut && (least == NO_COST || prices[variable][value] < least)) {
                    least = prices[variable][value];
                }
            }
            values[variable] = UNSET;
            return least;
        }

        int firstTwin(int[] values, int last) {
            for (int a = 0; a < last; a++) {
                if (values[a] > values[last] && areTwins(a, last)) {
                    return a;
                }
            }
            return NONE;
        }

        private boolean areTwins(int a, int b) {
            boolean alike = sizes[a] == sizes[b];
            for (int value = 0; value < sizes[a] && alike; value++) {
                alike = prices[a][value] == prices[b][value];
            }
            for (int i = 0; i < ruleCount && alike; i++) {
                alike = rules[i].treatsAlike(a, b);
            }
            return alike;
        }
    }

    /** Tells what a node is, for which rule or variable, and its bound. */
    private static final class Judge {
        int what = OPEN;
        int why = NONE;
        int bound = NO_COST;

        void look(Problem p, int[] values, int depth, boolean mindsTwins) {
            int broken = p.firstBroken(values);
            if (broken != NONE) {
                close(OUT_BY_A_RULE, broken);
                return;
            }
            int twin = mindsTwins ? p.firstTwin(values, depth - 1) : NONE;
            if (twin != NONE) {
                close(TWIN, twin);
                return;
            }
            int sum = 0;
            for (int i = 0; i < p.variables; i++) {
                int least = i < depth ? p.prices[i][values[i]] : p.leastCost(values, i);
                if (least == NO_COST) {
                    close(WITHOUT_A_WAY, i);
                    return;
                }
                sum += least;
            }
            what = OPEN;
            why = NONE;
            bound = sum;
        }

        private void close(int as, int reason) {
            what = as;
            why = reason;
            bound = NO_COST;
        }
    }

    /** The nodes that are known: that of none is the first, those below a done one stand side by side. */
    private static final class Tree {
        private static final int VALUE_BITS = 3;
        private static final int ROW_BITS = VALUE_BITS * MOST_VARIABLES;

        // The bound above the row (values from 1 on, 0 where none is set): the lesser number is ahead.
        final long[] place;
        final byte[] depth;
        final byte[] what;
        final byte[] why;
        final byte[] stage;
        final byte[] doneBy;
        final short[] firstBelow;
        final boolean[] isReached;
        final int[] walk = new int[MOST_TAKEN];
        int known = 0;
        int done = 0;
        int taken = 0;
        private final int[] values = new int[MOST_VARIABLES];
        private final Judge judge = new Judge();
        private Problem problem;
        private boolean mindsTwins = true;

        Tree(Problem any, int mostDone) {
            int room = 1 + Math.max(0, mostDone) * MOST_VALUES;
            problem = any;
            place = new long[room];
            depth = new byte[room];
            what = new byte[room];
            why = new byte[room];
            stage = new byte[room];
            doneBy = new byte[room];
            firstBelow = new short[room];
            isReached = new boolean[room];
        }

        void plant(Problem p, boolean withTwins) {
            problem = p;
            mindsTwins = withTwins;
            known = 0;
            done = 0;
            taken = 0;
            Arrays.fill(values, UNSET);
            judge.look(problem, values, 0, mindsTwins);
            addJudged(0, 0);
            isReached[0] = true;
        }

        private void addJudged(int deep, long row) {
            place[known] = ((long) judge.bound << ROW_BITS) | row;
            depth[known] = (byte) deep;
            what[known] = (byte) judge.what;
            why[known] = (byte) judge.why;
            stage[known] = FREE;
            doneBy[known] = NONE;
            firstBelow[known] = NO_NODE;
            isReached[known] = false;
            known++;
        }

        void finish(int id, int helper) {
            stage[id] = DONE;
            doneBy[id] = (byte) helper;
            done++;
            if (isFull(id)) {
                return;
            }
            int next = depth[id];
            long row = place[id] & ((1L << ROW_BITS) - 1);
            Arrays.fill(values, UNSET);
            copyValues(id, values, 0);
            firstBelow[id] = (short) known;
            for (int value = 0; value < problem.sizes[next] && known < place.length; value++) {
                values[next] = value;
                judge.look(problem, values, next + 1, mindsTwins);
                addJudged(next + 1, row | (long) (value + 1) << shiftOf(next));
            }
        }

        void take(int id) {
            if (taken >= MOST_TAKEN) {
                return;
            }
            stage[id] = TAKEN;
            walk[taken] = id;
            taken++;
            int wide = widthBelow(id);
            for (int value = 0; value < wide; value++) {
                isReached[firstBelow[id] + value] = true;
            }
        }

        int nextFree() {
            int best = NO_NODE;
            for (int id = 0; id < known; id++) {
                boolean isFree = what[id] == OPEN && stage[id] == FREE;
                if (isFree && (best == NO_NODE || place[id] < place[best])) {
                    best = id;
                }
            }
            return best;
        }

        int nextOfWalk() {
            int best = NO_NODE;
            for (int id = 0; id < known; id++) {
                boolean isToTake = isReached[id] && what[id] == OPEN && stage[id] != TAKEN;
                if (isToTake && (best == NO_NODE || place[id] < place[best])) {
                    best = id;
                }
            }
            return best;
        }

        boolean isFull(int id) {
            return depth[id] >= problem.variables;
        }

        int boundOf(int id) {
            return (int) (place[id] >> ROW_BITS);
        }

        int valueOf(int id, int variable) {
            return (int) (place[id] >> shiftOf(variable) & (1 << VALUE_BITS) - 1) - 1;
        }

        void copyValues(int id, int[] to, int from) {
            for (int i = 0; i < depth[id] && from + i < to.length; i++) {
                to[from + i] = valueOf(id, i);
            }
        }

        /** How many nodes are below one; variables that came to the problem since it was done do not count. */
        private int widthBelow(int id) {
            return firstBelow[id] == NO_NODE ? 0 : problem.sizes[depth[id]];
        }

        int below(int id, int value) {
            return value >= 0 && value < widthBelow(id) ? firstBelow[id] + value : NO_NODE;
        }

        int openBelow(int id) {
            int open = 0;
            int wide = widthBelow(id);
            for (int value = 0; value < wide; value++) {
                if (what[firstBelow[id] + value] == OPEN) {
                    open++;
                }
            }
            return open;
        }

        private static int shiftOf(int variable) {
            return VALUE_BITS * (MOST_VARIABLES - 1 - variable);
        }
    }

    /** The helpers under their numbers, the schedule of their turns, and what is told of them. */
    private static final class Team {
        int size = 1;
        int scheduled = 0;
        final int[] failAt = new int[MOST_HELPERS];
        final int[] schedule = new int[MOST_SCHEDULED];
        final int[] done = new int[MOST_HELPERS];
        final int[] idle = new int[MOST_HELPERS];
        final int[] replaced = new int[MOST_HELPERS];

        void become(int n) {
            size = n;
            Arrays.fill(failAt, 0);
        }

        int whoHasTurn(int turns) {
            if (turns >= 0 && turns < scheduled) {
                return schedule[turns] < size ? schedule[turns] : 0;
            }
            return size > 1 ? Math.floorMod(turns - scheduled, size) : 0;
        }
    }

    /** One solving: the turns of a team in a tree, and the walk behind them. */
    private static final class Solving {
        Tree tree;
        private Team team;
        private int limit = 0;
        private int turns = 0;
        private final int[] holds = new int[MOST_HELPERS];
        private final int[] had = new int[MOST_HELPERS];

        Solving(Problem any, Team anyTeam) {
            tree = new Tree(any, MOST_DONE);
            team = anyTeam;
        }

        int begin(Problem p, Team by, int mostNodes) {
            team = by;
            limit = mostNodes;
            turns = 0;
            Arrays.fill(team.done, 0);
            Arrays.fill(holds, NO_NODE);
            Arrays.fill(had, 0);
            tree.plant(p, true);
            return tree.what[0] == OPEN ? STOPPED : NOTHING;
        }

        int takeTurn() {
            int helper = team.whoHasTurn(turns);
            turns++;
            if (holds[helper] == NO_NODE) {
                pick(helper);
            } else if (had[helper] == team.failAt[helper]) {
                // What a number has had only grows: the one that comes in its place does not fail again.
                replace(helper);
            } else {
                tree.finish(holds[helper], helper);
                team.done[helper]++;
                holds[helper] = NO_NODE;
            }
            return walkOn();
        }

        private void pick(int helper) {
            boolean isFarAhead = tree.done - tree.taken >= MOST_DONE_AHEAD;
            int id = isFarAhead ? NO_NODE : tree.nextFree();
            if (id == NO_NODE) {
                team.idle[helper]++;
                return;
            }
            tree.stage[id] = HELD;
            holds[helper] = id;
            had[helper]++;
        }

        private void replace(int helper) {
            tree.stage[holds[helper]] = FREE;
            holds[helper] = NO_NODE;
            team.replaced[helper]++;
        }

        private int walkOn() {
            for (int i = 0; i < MOST_TAKEN; i++) {
                int next = tree.nextOfWalk();
                if (next == NO_NODE) {
                    return NOTHING;
                }
                if (tree.stage[next] != DONE) {
                    return STOPPED;
                }
                tree.take(next);
                if (tree.isFull(next)) {
                    return FOUND;
                }
                if (tree.taken >= MOST_TAKEN) {
                    return LARGE;
                }
                if (tree.taken == limit) {
                    return LIMITED;
                }
            }
            return STOPPED;
        }

        /** Writes what told() tells, and behind it the answer's values. */
        void sumUp(int result, int[] outcome) {
            boolean isFound = result == FOUND && tree.taken > 0;
            int told = isFound ? tree.walk[tree.taken - 1] : tree.nextOfWalk();
            int bound = told == NO_NODE ? NO_COST : tree.boundOf(told);
            Arrays.fill(outcome, NONE);
            outcome[0] = result;
            outcome[1] = tree.taken;
            outcome[2] = tree.done;
            outcome[3] = turns;
            outcome[4] = isFound ? bound : NO_COST;
            outcome[5] = bound;
            if (isFound) {
                tree.copyValues(told, outcome, TOLD);
            }
        }
    }
}
