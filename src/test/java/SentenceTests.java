import java.lang.reflect.InvocationTargetException;
import java.lang.reflect.Method;
import java.util.ArrayList;
import java.util.Comparator;
import java.util.List;
import java.util.function.IntSupplier;
import java.util.function.LongSupplier;

/** Runs the tests of a class, each for one sentence of the document, and names the promise of one that does not hold. */
abstract class SentenceTests {
    static final int NONE = -1, BAD = -2, NO = -3, FULL = -4;
    static final int LEAST = Integer.MIN_VALUE, MOST = Integer.MAX_VALUE;
    /** 12 pillars of strength 999 in the first row, each of which bears its column of 8. */
    static final String FIRST_ROW = "p0 0 999;p0 1 999;p0 2 999;p0 3 999;p0 4 999;p0 5 999;"
            + "p0 6 999;p0 7 999;p0 8 999;p0 9 999;p0 10 999;p0 11 999;";
    /** Pillars in three corners, which bear 24, 42 and 30. Without the last one the first two bear 48 each. */
    static final String THREE_CORNERS = "p 0 0 24;p 0 11 48;p 7 0 30;";

    private final Due due = new Due();
    private String sentence = "";

    static List<Method> testsOf(Class<?> type) {
        List<Method> tests = new ArrayList<>();
        for (Method method : type.getDeclaredMethods()) {
            if (method.isAnnotationPresent(Sentence.class)) tests.add(method);
        }
        tests.sort(Comparator.<Method>comparingInt(test -> test.getAnnotation(Sentence.class).promise())
                .thenComparing(Method::getName));
        return tests;
    }

    static String nameOf(Method test) {
        Sentence sentence = test.getAnnotation(Sentence.class);
        String of = sentence.promise() == 0 ? "terms" : "promise " + sentence.promise();
        return of + ", \"" + String.join("\" \"", sentence.says()) + "\" (" + test.getName() + ")";
    }

    final void runAll() throws IllegalAccessException {
        for (Method test : testsOf(getClass())) {
            sentence = nameOf(test);
            int before = due.calls();
            try {
                test.invoke(this);
            } catch (InvocationTargetException thrown) {
                is("threw " + thrown.getCause(), 1, 0);
            }
            if (due.calls() == before) is("asked for no answer", 1, 0);
        }
        due.end();
    }

    final void is(String what, long got, long want) {
        due.is(sentence + ": " + what, got, want);
    }

    // ---- mines

    static void type(PillarRuns x, String text) {
        x.clear();
        for (int i = 0; i < text.length(); i++) x.type(text.charAt(i));
    }

    static int does(PillarRuns x, String text) {
        type(x, text);
        return x.does();
    }

    /** A mine told by orders: one state is left, and the text is empty again. */
    static PillarRuns mine(String orders) {
        PillarRuns x = new PillarRuns();
        does(x, orders);
        x.clear();
        return x;
    }

    // ---- what a call leaves

    /** The waves as far as they can be seen: how many, of each pillar, and in each wave. */
    private static long waves(PillarRuns x) {
        long seen = x.wave(0, 0);
        int pillars = x.all(0);
        for (int p = 0; p < pillars; p++) seen = 101 * seen + x.wave(1, p);
        for (int k = 1; k <= 12; k++) seen = 101 * seen + x.wave(2, k);
        return seen;
    }

    /** A call that is asked for what is, or would be: all stays. */
    final void stays(String what, PillarRuns x, LongSupplier call, long want) {
        long before = x.digest(), waves = waves(x);
        is(what, call.getAsLong(), want);
        is(what + ": all stays", x.digest(), before);
        is(what + ": the waves stay", waves(x), waves);
    }

    /** A refused call: the digest tells that nothing is changed but that one count, which is one more. */
    final void refused(String what, PillarRuns x, int why, IntSupplier call) {
        int values = 6 + 8 + 5 * x.all(0) + 96;
        long oneMore = 1;
        for (int behind = values - 1 - (BAD - why); behind > 0; behind--) oneMore *= 31;
        long want = x.digest() + oneMore, waves = waves(x);
        is(what, call.getAsInt(), why);
        is(what + ": nothing changes but how often", x.digest(), want);
        is(what + ": the waves stay", waves(x), waves);
    }

    /** A call told S, with fewer than six states before it: it leaves one more, and back undoes it. */
    final void leavesState(String what, PillarRuns x, IntSupplier call, int want) {
        long before = x.digest();
        int states = x.told(5);
        is(what, call.getAsInt(), want);
        is(what + ": a state more", x.told(5), states + 1);
        is(what + ": back", x.back(), states);
        is(what + ": as before", x.digest(), before);
    }

    /** A text with a fault, on any mine: nothing is done and nothing counts. */
    final void fault(PillarRuns x, String text, int place) {
        type(x, text);
        stays("\"" + text + "\"", x, x::does, -10 - place);
    }

    final void fault(String text, int place) {
        fault(new PillarRuns(), text, place);
    }

    /** A text without a fault, on a new object. */
    final void stands(String text, int standing) {
        is("\"" + text + "\"", does(new PillarRuns(), text), standing);
    }
}
