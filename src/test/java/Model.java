import java.util.ArrayList;
import java.util.Collections;
import java.util.Comparator;
import java.util.HashMap;
import java.util.HashSet;
import java.util.LinkedHashMap;
import java.util.List;
import java.util.Map;
import java.util.Set;

/**
 * The document once more, written for reading and not for speed: nodes are lists, sets are sets, and the walk
 * is reckoned whole before the helpers begin. RandomRunsTest holds CrateHelpers against it.
 */
public final class Model {
    static final int BAD = -1, STATE = -2, FULL = -3, NONE = -9, REFUSED = -1000000;

    static final class Part {
        int variable, weight;
    }

    static final class Rule {
        int kind, c;
        List<Part> parts = new ArrayList<>();

        Part of(int variable) {
            for (Part p : parts) if (p.variable == variable) return p;
            return null;
        }
    }

    static final class Problem {
        List<int[]> costs = new ArrayList<>();
        List<Integer> kinds = new ArrayList<>();
        List<Rule> rules = new ArrayList<>();
        Object version = new Object();
        Ended ended = null;

        void changed() {
            version = new Object();
            ended = null;
        }
    }

    static final class Verdict {
        int what, why = NONE, bound = REFUSED;
    }

    static final class Walk {
        int result;
        List<List<Integer>> taken = new ArrayList<>();
        int leastOpen = REFUSED;
    }

    static final class Ended {
        int[] told;
        List<Integer> answer;
    }

    static final class Solving {
        int problem, turns = 0, taken = 0;
        Walk walk;
        Set<List<Integer>> known = new HashSet<>();
        Map<List<Integer>, Verdict> verdicts = new HashMap<>();
        Map<List<Integer>, Integer> done = new LinkedHashMap<>();
        Map<Integer, List<Integer>> has = new HashMap<>();
        int[] had = new int[5];
        int[] failAt = new int[5];
    }

    List<Problem> problems = new ArrayList<>();
    int helpers = 1, limit = 0, refused = 0;
    int[] failAt = new int[5], doneBy = new int[5], idle = new int[5], replaced = new int[5];
    List<Integer> schedule = new ArrayList<>();
    Solving way = null;
    List<int[]> lastWalk = new ArrayList<>();
    List<List<Verdict>> lastBelow = new ArrayList<>();
    Problem asked = null;
    Object askedVersion = null;
    List<Integer> askedRow = new ArrayList<>();
    List<Integer> secondRow = new ArrayList<>();

    // ---- the terms

    static boolean broken(Problem p, Rule r, Map<Integer, Integer> set) {
        int least = 0, greatest = 0, enough = 0;
        for (Part q : r.parts) {
            Integer v = set.get(q.variable);
            int n = p.costs.get(q.variable).length;
            int lo = Integer.MAX_VALUE, hi = Integer.MIN_VALUE;
            for (int x = 0; x < n; x++) {
                if (v == null || v == x) {
                    lo = Math.min(lo, x * q.weight);
                    hi = Math.max(hi, x * q.weight);
                }
            }
            least += lo;
            greatest += hi;
            if (v == null || v == q.weight) enough++;
        }
        switch (r.kind) {
            case 0:
                for (int x = 0; x <= 5; x++) {
                    int load = 0;
                    for (Part q : r.parts) {
                        Integer v = set.get(q.variable);
                        if (v == null ? q.weight < 0 : v == x) load += q.weight;
                    }
                    if (load > r.c) return true;
                }
                return false;
            case 1: return least > r.c;
            case 2: return greatest < r.c;
            case 3: return least > r.c || greatest < r.c;
            case 4:
            case 5:
                for (Part a : r.parts) {
                    for (Part b : r.parts) {
                        Integer x = set.get(a.variable), y = set.get(b.variable);
                        if (a == b || x == null || y == null) continue;
                        if (x.equals(y) || r.kind == 5 && Math.abs(x - y) < r.c) return true;
                    }
                }
                return false;
            case 6:
                for (int i = 0; i + 1 < r.parts.size(); i++) {
                    Integer x = set.get(r.parts.get(i).variable), y = set.get(r.parts.get(i + 1).variable);
                    if (x != null && y != null && y - x < r.c) return true;
                }
                return false;
            default: return enough < r.c;
        }
    }

    static int leastBroken(Problem p, Map<Integer, Integer> set) {
        for (int i = 0; i < p.rules.size(); i++) if (broken(p, p.rules.get(i), set)) return i;
        return NONE;
    }

    static Map<Integer, Integer> setBy(List<Integer> row) {
        Map<Integer, Integer> set = new HashMap<>();
        for (int i = 0; i < row.size(); i++) set.put(i, row.get(i));
        return set;
    }

    static boolean out(Problem p, List<Integer> row, int variable, int value) {
        Map<Integer, Integer> set = setBy(row);
        set.put(variable, value);
        return leastBroken(p, set) != NONE;
    }

    static boolean twins(Problem p, int a, int e) {
        if (!java.util.Arrays.equals(p.costs.get(a), p.costs.get(e))) return false;
        for (Rule r : p.rules) {
            Part x = r.of(a), y = r.of(e);
            if (x == null && y == null) continue;
            if (x == null || y == null || x.weight != y.weight || r.kind == 6) return false;
        }
        return true;
    }

    static Verdict verdict(Problem p, List<Integer> row, boolean minding) {
        Verdict v = new Verdict();
        v.why = leastBroken(p, setBy(row));
        if (v.why != NONE) {
            v.what = 1;
            return v;
        }
        int e = row.size() - 1;
        for (int a = 0; minding && a < e; a++) {
            if (row.get(a) > row.get(e) && twins(p, a, e)) {
                v.what = 2;
                v.why = a;
                return v;
            }
        }
        int sum = 0;
        for (int i = 0; i < p.costs.size(); i++) {
            List<Integer> ways = new ArrayList<>();
            for (int x = 0; x < p.costs.get(i).length; x++) {
                if (i <= e ? x == row.get(i) : !out(p, row, i, x)) ways.add(p.costs.get(i)[x]);
            }
            if (ways.isEmpty()) {
                v.what = 3;
                v.why = i;
                return v;
            }
            sum += Collections.min(ways);
        }
        v.bound = sum;
        return v;
    }

    static List<List<Integer>> below(Problem p, List<Integer> row) {
        List<List<Integer>> all = new ArrayList<>();
        if (row.size() < p.costs.size()) {
            for (int x = 0; x < p.costs.get(row.size()).length; x++) {
                List<Integer> next = new ArrayList<>(row);
                next.add(x);
                all.add(next);
            }
        }
        return all;
    }

    static Comparator<List<Integer>> ahead(Problem p, Map<List<Integer>, Integer> bounds) {
        return (a, b) -> {
            int byBound = Integer.compare(bounds.get(a), bounds.get(b));
            if (byBound != 0) return byBound;
            for (int i = 0; i < a.size() && i < b.size(); i++) {
                if (!a.get(i).equals(b.get(i))) return a.get(i) - b.get(i);
            }
            return a.size() - b.size();
        };
    }

    /** The walk up to some number of nodes; past how many full ones it goes on. */
    static Walk walk(Problem p, int limit, boolean minding, int pass) {
        Walk w = new Walk();
        Map<List<Integer>, Integer> bounds = new HashMap<>();
        Set<List<Integer>> open = new HashSet<>();
        List<Integer> none = new ArrayList<>();
        if (verdict(p, none, minding).what == 0) {
            bounds.put(none, verdict(p, none, minding).bound);
            open.add(none);
        }
        while (true) {
            if (!w.taken.isEmpty()) {
                List<Integer> last = w.taken.get(w.taken.size() - 1);
                if (last.size() == p.costs.size() && pass-- == 0) {
                    w.result = 1;
                    w.leastOpen = bounds.get(last);
                    return w;
                }
            }
            if (!open.isEmpty()) w.leastOpen = bounds.get(Collections.min(open, ahead(p, bounds)));
            else w.leastOpen = REFUSED;
            if (w.taken.size() == 250) {
                w.result = 4;
                return w;
            }
            if (limit > 0 && w.taken.size() == limit) {
                w.result = 3;
                return w;
            }
            if (open.isEmpty()) {
                w.result = 2;
                return w;
            }
            List<Integer> next = Collections.min(open, ahead(p, bounds));
            open.remove(next);
            w.taken.add(next);
            for (List<Integer> b : below(p, next)) {
                Verdict v = verdict(p, b, minding);
                if (v.what == 0) {
                    bounds.put(b, v.bound);
                    open.add(b);
                }
            }
        }
    }

    // ---- problems

    boolean noProblem(int problem) {
        return problem < 0 || problem >= problems.size();
    }

    boolean noVariable(int problem, int variable) {
        return noProblem(problem) || variable < 0 || variable >= problems.get(problem).costs.size();
    }

    boolean noValue(int problem, int variable, int value) {
        return noVariable(problem, variable) || value < 0 || value >= problems.get(problem).costs.get(variable).length;
    }

    boolean noRule(int problem, int rule) {
        return noProblem(problem) || rule < 0 || rule >= problems.get(problem).rules.size();
    }

    int refuse(int by) {
        refused = by;
        return REFUSED;
    }

    int fine(int n) {
        refused = 0;
        return n;
    }

    public int problem() {
        if (way != null) return STATE;
        if (problems.size() == 5) return FULL;
        problems.add(new Problem());
        return problems.size() - 1;
    }

    public int variable(int problem, int n, int kind) {
        if (noProblem(problem) || n < 1 || n > 6 || kind < 0 || kind > 3) return BAD;
        if (way != null) return STATE;
        Problem p = problems.get(problem);
        if (p.costs.size() == 6) return FULL;
        p.costs.add(new int[n]);
        p.kinds.add(kind);
        p.changed();
        return p.costs.size() - 1;
    }

    public int cost(int problem, int variable, int value, int v) {
        if (noValue(problem, variable, value) || v < -100000 || v > 100000) return refuse(BAD);
        if (way != null) return refuse(STATE);
        Problem p = problems.get(problem);
        int kind = p.kinds.get(variable);
        int kept = kind == 0 ? (byte) v : kind == 1 ? (short) v : kind == 2 ? (char) v : v;
        p.costs.get(variable)[value] = kept;
        p.changed();
        return fine(kept);
    }

    public int rule(int problem, int kind, int c) {
        if (noProblem(problem) || kind < 0 || kind > 7 || c < -1000 || c > 1000) return BAD;
        if (way != null) return STATE;
        Problem p = problems.get(problem);
        if (p.rules.size() == 8) return FULL;
        Rule r = new Rule();
        r.kind = kind;
        r.c = c;
        p.rules.add(r);
        p.changed();
        return p.rules.size() - 1;
    }

    public int part(int problem, int rule, int variable, int weight) {
        if (noRule(problem, rule) || noVariable(problem, variable) || weight < -50 || weight > 50) return BAD;
        Rule r = problems.get(problem).rules.get(rule);
        if (way != null || r.of(variable) != null) return STATE;
        Part q = new Part();
        q.variable = variable;
        q.weight = weight;
        r.parts.add(q);
        problems.get(problem).changed();
        return r.parts.size();
    }

    public int number(int problem, int rule, int c) {
        if (noRule(problem, rule) || c < -1000 || c > 1000) return refuse(BAD);
        if (way != null) return refuse(STATE);
        Rule r = problems.get(problem).rules.get(rule);
        int was = r.c;
        r.c = c;
        problems.get(problem).changed();
        return fine(was);
    }

    // ---- helpers

    public int helpers(int n) {
        if (n < 1 || n > 5) return BAD;
        if (way != null) return STATE;
        int was = helpers;
        helpers = n;
        failAt = new int[5];
        return was;
    }

    public int fail(int helper, int k) {
        if (helper < 0 || helper >= helpers || k < 0 || k > 200) return BAD;
        if (way != null) return STATE;
        failAt[helper] = k;
        return 1;
    }

    public int turn(int helper) {
        if (helper < 0 || helper > 4) return BAD;
        if (way != null) return STATE;
        if (schedule.size() == 200) return FULL;
        schedule.add(helper);
        return schedule.size();
    }

    public int plain() {
        if (way != null) return STATE;
        int had = schedule.size();
        schedule.clear();
        return had;
    }

    public int limit(int n) {
        if (n < 0 || n > 1000) return BAD;
        if (way != null) return STATE;
        int was = limit;
        limit = n;
        return was;
    }

    // ---- solving

    public int solve(int problem, int turns) {
        if (noProblem(problem) || turns < 1 || turns > 500) return BAD;
        if (way != null && way.problem != problem) return STATE;
        Problem p = problems.get(problem);
        if (way == null) {
            way = new Solving();
            way.problem = problem;
            way.walk = walk(p, limit, true, 0);
            way.known.add(new ArrayList<>());
            way.failAt = failAt.clone();
            doneBy = new int[5];
        }
        for (int i = 0; i < turns && way.taken < way.walk.taken.size(); i++) oneTurn(p);
        if (way.taken < way.walk.taken.size()) return 0;
        finish(p);
        return p.ended.told[0];
    }

    void oneTurn(Problem p) {
        int h = way.turns < schedule.size() ? schedule.get(way.turns) : (way.turns - schedule.size()) % helpers;
        if (h >= helpers) h = 0;
        way.turns++;
        List<Integer> node = way.has.remove(h);
        if (node == null) {
            pick(p, h);
        } else if (way.had[h] == way.failAt[h]) {
            way.failAt[h] = 0;
            replaced[h]++;
        } else {
            way.done.put(node, h);
            doneBy[h]++;
            way.known.addAll(below(p, node));
        }
        while (way.taken < way.walk.taken.size() && way.done.containsKey(way.walk.taken.get(way.taken))) way.taken++;
    }

    void pick(Problem p, int h) {
        Map<List<Integer>, Integer> bounds = new HashMap<>();
        for (List<Integer> row : way.known) {
            if (way.done.containsKey(row) || way.has.containsValue(row)) continue;
            Verdict v = way.verdicts.computeIfAbsent(row, r -> verdict(p, r, true));
            if (v.what == 0) bounds.put(row, v.bound);
        }
        if (bounds.isEmpty() || way.done.size() - way.taken >= 30) {
            idle[h]++;
            return;
        }
        way.has.put(h, Collections.min(bounds.keySet(), ahead(p, bounds)));
        way.had[h]++;
    }

    void finish(Problem p) {
        Walk w = way.walk;
        Ended e = new Ended();
        e.answer = w.result == 1 ? w.taken.get(w.taken.size() - 1) : null;
        int price = REFUSED;
        if (e.answer != null) {
            price = 0;
            for (int i = 0; i < e.answer.size(); i++) price += p.costs.get(i)[e.answer.get(i)];
        }
        e.told = new int[] {w.result, w.taken.size(), way.done.size(), way.turns, price, w.leastOpen};
        p.ended = e;
        lastWalk.clear();
        lastBelow.clear();
        for (List<Integer> row : w.taken) {
            List<Verdict> verdicts = new ArrayList<>();
            int open = 0;
            for (List<Integer> b : below(p, row)) {
                verdicts.add(verdict(p, b, true));
                if (verdicts.get(verdicts.size() - 1).what == 0) open++;
            }
            int[] facts = {row.size(), NONE, NONE, NONE, NONE, NONE, NONE, verdict(p, row, true).bound, way.done.get(row), open};
            for (int i = 0; i < row.size(); i++) facts[i + 1] = row.get(i);
            lastWalk.add(facts);
            lastBelow.add(verdicts);
        }
        way = null;
    }

    public int giveUp() {
        if (way == null) return STATE;
        int was = way.problem;
        way = null;
        return was;
    }

    public int told(int problem, int what) {
        if (noProblem(problem) || what < 0 || what > 5) return BAD;
        Ended e = problems.get(problem).ended;
        return e == null ? NONE : e.told[what];
    }

    public int answer(int problem, int variable) {
        if (noVariable(problem, variable)) return BAD;
        Ended e = problems.get(problem).ended;
        return e == null || e.answer == null ? NONE : e.answer.get(variable);
    }

    public int walked(int i, int what) {
        if (what < 0 || what > 9) return BAD;
        return i < 0 || i >= lastWalk.size() ? NONE : lastWalk.get(i)[what];
    }

    public int closed(int i, int v, int what) {
        if (what < 0 || what > 1) return BAD;
        if (i < 0 || i >= lastWalk.size() || v < 0 || v >= lastBelow.get(i).size()) return NONE;
        Verdict d = lastBelow.get(i).get(v);
        return what == 0 ? d.what : d.why;
    }

    public int helper(int helper, int what) {
        if (helper < 0 || helper > 4 || what < 0 || what > 2) return BAD;
        return (what == 0 ? doneBy : what == 1 ? idle : replaced)[helper];
    }

    // ---- what holds

    public int ask(int problem) {
        if (noProblem(problem)) return BAD;
        asked = problems.get(problem);
        askedVersion = asked.version;
        askedRow.clear();
        return asked.costs.size();
    }

    public int with(int value) {
        if (asked == null || askedRow.size() == asked.costs.size()) return BAD;
        if (value < 0 || value >= asked.costs.get(askedRow.size()).length) return BAD;
        askedRow.add(value);
        return askedRow.size();
    }

    public int node(int what, int i, int j) {
        if (what < 0 || what > 4) return BAD;
        if (asked == null || asked.version != askedVersion) return STATE;
        if (what == 0) {
            if (i < 0 || i >= asked.rules.size()) return BAD;
            return broken(asked, asked.rules.get(i), setBy(askedRow)) ? 1 : 0;
        }
        if (what == 1) {
            if (noValue(problems.indexOf(asked), i, j)) return BAD;
            return i >= askedRow.size() && out(asked, askedRow, i, j) ? 1 : 0;
        }
        Verdict v = verdict(asked, askedRow, true);
        return what == 2 ? v.what : what == 3 ? v.bound : v.why;
    }

    public int second(int problem, int k) {
        if (noProblem(problem) || k < 0 || k > 60) return -1000002;
        secondRow = new ArrayList<>();
        Walk w = walk(problems.get(problem), 0, false, k);
        if (w.result == 1) {
            secondRow = w.taken.get(w.taken.size() - 1);
            return w.leastOpen;
        }
        return w.leastOpen == REFUSED ? REFUSED : -1000001;
    }

    public int row(int i) {
        return i < 0 || i >= secondRow.size() ? NONE : secondRow.get(i);
    }

    public int same(int problem, int helpers) {
        if (noProblem(problem) || helpers < 1 || helpers > 5) return BAD;
        return way != null ? STATE : 1;
    }

    // ---- what is told

    public int count(int what) {
        switch (what) {
            case 0: return problems.size();
            case 1: return limit;
            case 2: return helpers;
            case 3: return schedule.size();
            case 4: return way == null ? NONE : way.problem;
            case 5: return way == null ? 0 : way.known.size();
            case 6: return way == null ? 0 : way.done.size();
            case 7: return way == null ? 0 : way.taken;
            default: return BAD;
        }
    }

    public int about(int problem, int what, int i) {
        if (noProblem(problem) || what < 0 || what > 6) return refuse(BAD);
        Problem p = problems.get(problem);
        if (what == 0) return fine(p.costs.size());
        if (what == 1) return fine(p.rules.size());
        if (what <= 4) {
            if (noRule(problem, i)) return refuse(BAD);
            Rule r = p.rules.get(i);
            return fine(what == 2 ? r.kind : what == 3 ? r.c : r.parts.size());
        }
        if (noVariable(problem, i)) return refuse(BAD);
        return fine(what == 5 ? p.costs.get(i).length : p.kinds.get(i));
    }

    public int costs(int problem, int variable, int value) {
        if (noValue(problem, variable, value)) return refuse(BAD);
        return fine(problems.get(problem).costs.get(variable)[value]);
    }

    public int status() {
        return refused;
    }
}
