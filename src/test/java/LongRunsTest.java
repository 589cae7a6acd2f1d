import java.util.List;
import java.util.Map;
import java.util.TreeMap;

/**
 * Runs by fixed seeds, each on one object and to its 512th call, in which problems change, solvings stop, go on, end,
 * are given up and begin again, and questions come in between: each call is answered as the model does.
 */
public final class LongRunsTest {
    private static final int RUNS = 150;
    private static final int LEAST = 15;

    /** What the runs have to meet, lest a change of how they come about leaves them without it. */
    private static final List<String> EVENTS = List.of(
        "a solving stopped", "a solving went on and stopped", "a solving went on and ended", "a solving was given up",
        "a solving began behind one given up", "a solving began behind a change", "a solving began again unchanged",
        "FOUND", "NOTHING", "LIMITED", "LARGE",
        "a problem changed behind its end", "a change was refused under way", "a change was refused otherwise",
        "ask under way", "with under way", "node under way", "second under way", "row under way", "same under way",
        "ask between", "with between", "node between", "second between", "row between", "same between",
        "node behind a change", "second found one", "second found none", "second came too far", "row of none",
        "an idle turn", "a helper was replaced", "thirty were done ahead", "walked told of another problem");

    public static void main(String[] args) {
        Check check = new Check("LongRunsTest");
        Map<String, Integer> met = new TreeMap<>();
        for (int seed = 0; seed < RUNS; seed++) {
            new LongRun(seed, check, met).go();
        }
        for (String event : EVENTS) {
            int times = met.getOrDefault(event, 0);
            check.holds(event + ": " + times + " times", times >= LEAST);
        }
        for (String event : met.keySet()) {
            check.holds(event + " is looked for", EVENTS.contains(event));
        }
        check.end();
    }
}
