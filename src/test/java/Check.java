import java.util.Arrays;
import java.util.LinkedHashSet;
import java.util.NoSuchElementException;
import java.util.Set;
import java.util.function.ToIntFunction;

/** What the tests share: comparing an answer with the one that is due, and ending with the result. */
final class Check {
    /** Stands for the exception that only of() throws. */
    static final int THROWN = Integer.MIN_VALUE;

    private static final Set<String> SENTENCES = new LinkedHashSet<>();

    private static String sentence = "";
    private static int askedOfSentence = 1;
    private static int wrong = 0;
    private static int asked = 0;

    /** Far more than a test needs, on a slow machine too. */
    private static final long MOST_MILLISECONDS = 300_000;

    static {
        Thread guard = new Thread(Check::failIfItNeverEnds);
        guard.setDaemon(true);
        guard.start();
    }

    private Check() {
    }

    /** A call that does not end is a fault as well, and would else hold up all tests. */
    private static void failIfItNeverEnds() {
        try {
            Thread.sleep(MOST_MILLISECONDS);
        } catch (InterruptedException e) {
            return;
        }
        System.out.println("the test does not end");
        Runtime.getRuntime().halt(1);
    }

    /** From here on answers are asked for one sentence of the document: where it stands, its words. */
    static void sentence(String where, String words) {
        endSentence();
        sentence = where + " | " + words;
        askedOfSentence = 0;
        if (!SENTENCES.add(sentence)) {
            fail("a second test of the sentence");
        }
    }

    /** What is asked from here on is for no sentence. */
    static void endSentences() {
        endSentence();
        sentence = "";
        askedOfSentence = 1;
    }

    /** All sentences that answers were asked for. */
    static Set<String> sentences() {
        return SENTENCES;
    }

    private static void endSentence() {
        if (askedOfSentence == 0) {
            fail("nothing was asked");
        }
    }

    private static void fail(String text) {
        wrong++;
        System.out.println((sentence.isEmpty() ? "" : "\"" + sentence + "\": ") + text);
    }

    static void due(String what, int got, int want) {
        asked++;
        askedOfSentence++;
        if (got != want) {
            fail(what + " answered " + got + ", due is " + want);
        }
    }

    static void due(String what, boolean got, boolean want) {
        due(what, got ? 1 : 0, want ? 1 : 0);
    }

    static void due(String what, String got, String want) {
        asked++;
        askedOfSentence++;
        if (!got.equals(want)) {
            fail(what + "\n  answered " + got + "\n  due is   " + want);
        }
    }

    static void due(String what, int[] got, int... want) {
        due(what, Arrays.toString(got), Arrays.toString(want));
    }

    static int of(SwapGo x, int pack, int what) {
        try {
            return x.of(pack, what);
        } catch (NoSuchElementException e) {
            return THROWN;
        }
    }

    /** All that can be asked of an object without changing it. */
    static String snapshot(SwapGo x) {
        StringBuilder text = new StringBuilder();
        row(text, "count", 10, x::count);
        int cabinets = x.count(0);
        for (int c = 0; c < cabinets; c++) {
            int cabinet = c;
            row(text, "in " + c, 5, what -> x.in(cabinet, what));
        }
        int packs = x.count(1);
        for (int p = 0; p < packs; p++) {
            int pack = p;
            row(text, "of " + p, 4, what -> of(x, pack, what));
        }
        row(text, "planned", 12, x::planned);
        row(text, "stop", 6, x::stop);
        text.append(" chosen ").append(x.chosen());
        return text.toString();
    }

    static void row(StringBuilder text, String name, int length, ToIntFunction<Integer> answer) {
        text.append(' ').append(name).append(':');
        for (int i = 0; i < length; i++) {
            text.append(' ').append(answer.applyAsInt(i));
        }
    }

    static void end(String test) {
        endSentence();
        String ofSentences = SENTENCES.isEmpty() ? "" : " for " + SENTENCES.size() + " sentences";
        System.out.println(test + ": " + asked + " answers asked" + ofSentences + ", " + wrong + " not as due");
        if (wrong != 0 || asked == 0) {
            System.exit(1);
        }
    }
}
