import java.util.NoSuchElementException;
import java.util.function.ToIntFunction;

/** What the tests share: comparing an answer with the one that is due, and ending with the result. */
final class Check {
    /** Stands for the exception that only of() throws. */
    static final int THROWN = Integer.MIN_VALUE;

    private static int wrong = 0;
    private static int asked = 0;

    private Check() {
    }

    static void due(String what, int got, int want) {
        asked++;
        if (got != want) {
            wrong++;
            System.out.println(what + " answered " + got + ", due is " + want);
        }
    }

    static void due(String what, boolean got, boolean want) {
        due(what, got ? 1 : 0, want ? 1 : 0);
    }

    static void due(String what, String got, String want) {
        asked++;
        if (!got.equals(want)) {
            wrong++;
            System.out.println(what + "\n  answered " + got + "\n  due is   " + want);
        }
    }

    static int of(SwapGo x, int pack, int what) {
        try {
            return x.of(pack, what);
        } catch (NoSuchElementException e) {
            return THROWN;
        }
    }

    /** All that can be asked of an object without changing it. */
    static String snapshot(SwapGo x) {
        StringBuilder text = new StringBuilder();
        row(text, "count", 10, x::count);
        for (int c = 0; c < x.count(0); c++) {
            int cabinet = c;
            row(text, "in " + c, 5, what -> x.in(cabinet, what));
        }
        for (int p = 0; p < x.count(1); p++) {
            int pack = p;
            row(text, "of " + p, 4, what -> of(x, pack, what));
        }
        row(text, "planned", 12, x::planned);
        row(text, "stop", 6, x::stop);
        text.append(" chosen ").append(x.chosen());
        return text.toString();
    }

    private static void row(StringBuilder text, String name, int length, ToIntFunction<Integer> answer) {
        text.append(' ').append(name).append(':');
        for (int i = 0; i < length; i++) {
            text.append(' ').append(answer.applyAsInt(i));
        }
    }

    static void end(String test) {
        System.out.println(test + ": " + asked + " answers asked, " + wrong + " not as due");
        if (wrong != 0 || asked == 0) {
            System.exit(1);
        }
    }
}
