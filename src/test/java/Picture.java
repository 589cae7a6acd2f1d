import java.util.ArrayList;
import java.util.List;

/** What an object tells when it is asked all around, and how it goes on then: the object is used up by it. */
final class Picture {
    private static final int NONE = CrateHelpers.NONE;
    private static final int MOST_WALKED = 3;

    private final CrateHelpers x;
    private final List<String> lines = new ArrayList<>();

    Picture(CrateHelpers x) {
        this.x = x;
        counts();
        for (int p = 0; p < x.count(0); p++) {
            problem(p);
        }
        endedSolving();
        question();
        goesOn();
    }

    int calls() {
        // Some are asked for beside the lines, to see how far these have to go.
        return lines.size() + 30;
    }

    boolean isLike(Picture other) {
        return lines.equals(other.lines);
    }

    String firstUnlike(Picture other) {
        for (int i = 0; i < lines.size() && i < other.lines.size(); i++) {
            if (!lines.get(i).equals(other.lines.get(i))) {
                return lines.get(i) + " and not " + other.lines.get(i);
            }
        }
        return "no line differs";
    }

    private int see(String call) {
        int told = Run.answer(x, call);
        lines.add(call + " = " + told);
        return told;
    }

    private void counts() {
        for (int what = 0; what < 8; what++) {
            see("count(" + what + ")");
        }
        for (int helper = 0; helper < 5; helper++) {
            for (int what = 0; what < 3; what++) {
                see("helper(" + helper + ", " + what + ")");
            }
        }
    }

    private void problem(int p) {
        int variables = see("about(" + p + ", 0, 0)");
        int rules = see("about(" + p + ", 1, 0)");
        for (int i = 0; i < rules; i++) {
            see("about(" + p + ", 2, " + i + ")");
            see("about(" + p + ", 3, " + i + ")");
            see("about(" + p + ", 4, " + i + ")");
        }
        for (int i = 0; i < variables; i++) {
            see("about(" + p + ", 6, " + i + ")");
            int values = see("about(" + p + ", 5, " + i + ")");
            for (int value = 0; value < values; value++) {
                see("costs(" + p + ", " + i + ", " + value + ")");
            }
        }
        told(p);
    }

    private void told(int p) {
        for (int what = 0; what < 6; what++) {
            see("told(" + p + ", " + what + ")");
        }
        for (int i = 0; i < x.about(p, 0, 0); i++) {
            see("answer(" + p + ", " + i + ")");
        }
    }

    private void endedSolving() {
        for (int i = 0; i < MOST_WALKED && see("walked(" + i + ", 0)") != NONE; i++) {
            for (int what = 1; what < 10; what++) {
                see("walked(" + i + ", " + what + ")");
            }
            for (int v = 0; v < 6 && see("closed(" + i + ", " + v + ", 0)") != NONE; v++) {
                see("closed(" + i + ", " + v + ", 1)");
            }
        }
        for (int i = 0; i < 6; i++) {
            see("row(" + i + ")");
        }
    }

    private void question() {
        see("node(2, 0, 0)");
        see("node(3, 0, 0)");
        see("node(0, 0, 0)");
        see("with(0)");
        see("node(3, 0, 0)");
    }

    /** A limit, a schedule and failures show in what comes of the next solving alone. */
    private void goesOn() {
        int underWay = x.count(4);
        int p = underWay == NONE ? 0 : underWay;
        see("solve(" + p + ", 7)");
        for (int helper = 0; helper < 5; helper++) {
            see("helper(" + helper + ", 0)");
        }
        see("solve(" + p + ", 500)");
        if (x.count(0) > 0) {
            told(p);
        }
        for (int i = 0; i < MOST_WALKED; i++) {
            see("walked(" + i + ", 8)");
        }
        see("giveUp()");
        for (int helper = 0; helper < 5; helper++) {
            see("helper(" + helper + ", 2)");
        }
        see("second(0, 1)");
        see("row(0)");
    }
}
