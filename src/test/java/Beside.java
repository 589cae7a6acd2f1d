import java.lang.reflect.Method;
import java.util.Arrays;

/** A new object and the model of the document beside it: each call is made on both, and the answers have to be alike. */
final class Beside {
    private final Check check;
    private final String name;
    private final CrateHelpers real = new CrateHelpers();
    private final Model model = new Model();
    private int calls = 0;

    Beside(Check check, String name) {
        this.check = check;
        this.name = name;
    }

    /** What later calls answer is free. */
    boolean isUsedUp() {
        return calls >= Run.MOST_CALLS;
    }

    int calls() {
        return calls;
    }

    /** What the document asks for; a call behind the last one that is asked for anything is not made. */
    int call(String method, int... numbers) {
        if (isUsedUp()) {
            return CrateHelpers.BAD;
        }
        calls++;
        int got = answer(real, method, numbers);
        int want = answer(model, method, numbers);
        check.due(name + ", call " + calls + ": " + method + Arrays.toString(numbers), got, want);
        return want;
    }

    private static int answer(Object of, String name, int... numbers) {
        Class<?>[] types = new Class<?>[numbers.length];
        Arrays.fill(types, int.class);
        Object[] boxed = Arrays.stream(numbers).boxed().toArray();
        try {
            Method method = of.getClass().getMethod(name, types);
            return (Integer) method.invoke(of, boxed);
        } catch (ReflectiveOperationException e) {
            throw new IllegalStateException(name + Arrays.toString(numbers), e);
        }
    }
}
