import java.lang.reflect.Method;
import java.util.ArrayList;
import java.util.Arrays;
import java.util.List;

/**
 * A run of calls on a new object, each told as text. A call that is to be refused is made on an object of its own,
 * which from then on has to answer as one that was spared the call.
 */
final class Run {
    /** What calls beyond these answer is free. */
    static final int MOST_CALLS = 512;

    private static final List<String> TOLD_BY_STATUS = List.of("cost", "number", "about", "costs");

    private final Check check;
    private final String name;
    private final List<String> calls = new ArrayList<>();
    private final CrateHelpers x = new CrateHelpers();

    Run(Check check, String name) {
        this.check = check;
        this.name = name;
    }

    /** Makes calls, told one behind the other with "; " between them. */
    Run make(String some) {
        for (String call : some.split("; ")) {
            answer(call);
        }
        return this;
    }

    Run times(int n, String some) {
        for (int i = 0; i < n; i++) {
            make(some);
        }
        return this;
    }

    int answer(String call) {
        calls.add(call);
        check.holds(name + ": calls are few enough", calls.size() <= MOST_CALLS);
        return answer(x, call);
    }

    int calls() {
        return calls.size();
    }

    void due(String call, int want) {
        check.due(name + ": " + call, answer(call), want);
    }

    /** Calls whose answers are 0, 1, 2 and so on from a first one. */
    void dueFrom(int first, int n, String call) {
        for (int i = 0; i < n; i++) {
            due(call, first + i);
        }
    }

    /** One call for each number that its text has in the place of "#". */
    void dueOfEach(String call, int from, int... want) {
        for (int i = 0; i < want.length; i++) {
            due(call.replace("#", String.valueOf(from + i)), want[i]);
        }
    }

    /** The call is refused by BAD, STATE or FULL, and nothing changes. */
    void refused(String call, int by) {
        String method = methodOf(call);
        if (TOLD_BY_STATUS.contains(method)) {
            leaves(call, -1000000, by);
        } else {
            leaves(call, method.equals("second") ? -1000002 : by);
        }
    }

    /** Each number in the place of "#" is refused. */
    void refusedOfEach(String call, int by, int... numbers) {
        for (int n : numbers) {
            refused(call.replace("#", String.valueOf(n)), by);
        }
    }

    /** The first numbers that are not from least to most, on both sides, and the farthest ones. */
    void badBeside(String call, int least, int most) {
        refusedOfEach(call, CrateHelpers.BAD, least - 1, most + 1, Integer.MIN_VALUE, Integer.MAX_VALUE);
    }

    /** The call is answered so, and nothing changes, what status() tells neither. */
    void leaves(String call, int want) {
        leaves(call, want, again().status());
    }

    private void leaves(String call, int want, int status) {
        String what = name + ": " + call + " behind " + calls.size() + " calls";
        CrateHelpers struck = again();
        check.due(what, answer(struck, call), want);
        check.due(what + ", its status", struck.status(), status);
        Picture after = new Picture(struck);
        Picture spared = new Picture(again());
        check.holds(what + " leaves all as it was, but " + after.firstUnlike(spared), after.isLike(spared));
        check.holds(what + ": calls are few enough", calls.size() + 2 + after.calls() <= MOST_CALLS);
    }

    private CrateHelpers again() {
        CrateHelpers copy = new CrateHelpers();
        for (String call : calls) {
            answer(copy, call);
        }
        return copy;
    }

    private static String methodOf(String call) {
        return call.substring(0, call.indexOf('('));
    }

    static int answer(CrateHelpers x, String call) {
        String inside = call.substring(call.indexOf('(') + 1, call.lastIndexOf(')'));
        String[] texts = inside.isEmpty() ? new String[0] : inside.split(", *");
        Object[] numbers = new Object[texts.length];
        Class<?>[] types = new Class<?>[texts.length];
        Arrays.fill(types, int.class);
        for (int i = 0; i < texts.length; i++) {
            numbers[i] = Integer.parseInt(texts[i]);
        }
        try {
            Method method = CrateHelpers.class.getMethod(methodOf(call), types);
            return (Integer) method.invoke(x, numbers);
        } catch (ReflectiveOperationException e) {
            throw new IllegalStateException(call, e);
        }
    }
}
