import java.lang.annotation.Retention;
import java.lang.annotation.RetentionPolicy;
import java.lang.reflect.InvocationTargetException;
import java.lang.reflect.Method;
import java.util.ArrayList;
import java.util.List;

/**
 * What the tests of boundary cases (TermsEdges, PromisesEdges) have in common. Each of them holds one
 * sentence of ../shared/DOC.md, which stands above it, word by word. No room is asked more often than
 * the 512 calls for which the document promises anything.
 */
abstract class Edges {
    /** The sentence that a test holds, and the section of the document in which it stands. */
    @Retention(RetentionPolicy.RUNTIME)
    @interface Says {
        String in();

        String value();
    }

    /** Calls on a new room that lead to where a test starts. */
    interface Recipe {
        PaperlessRegistry make();
    }

    interface Call {
        long of(PaperlessRegistry x);
    }

    static final int NONE = -1;
    static final int MIN = Integer.MIN_VALUE;
    static final int MAX = Integer.MAX_VALUE;
    static final String BOUNDS = "IndexOutOfBoundsException";
    static final String ARGUMENT = "IllegalArgumentException";
    static final String STATE = "IllegalStateException";

    /** What is wrong in the test that runs. */
    private static final List<String> faults = new ArrayList<>();
    private static String running = "";

    static List<String> faultsOf(Method test) {
        faults.clear();
        running = test.getName();
        try {
            test.invoke(null);
        } catch (InvocationTargetException e) {
            fault("line " + lineIn(e.getCause()) + ": " + e.getCause());
        } catch (IllegalAccessException e) {
            throw new AssertionError(e);
        }
        return new ArrayList<>(faults);
    }

    // ---- how answers are looked at

    static void due(double want, double got) {
        if (want != got) {
            fault("line " + lineIn(new Throwable()) + ": answered " + got + ", due is " + want);
        }
    }

    static void thrown(String want, PaperlessRegistry x, Call call) {
        String got = told(x, call);
        if (!want.equals(got)) {
            fault("line " + lineIn(new Throwable()) + ": answered " + got + ", due is " + want);
        }
    }

    /** Each call throws that, and leaves its room like a twin that never heard of it. */
    static void refused(String want, Recipe recipe, Call... calls) {
        for (Call call : calls) {
            PaperlessRegistry x = recipe.make();
            thrown(want, x, call);
            if (!wholeState(recipe.make()).equals(wholeState(x))) {
                fault("line " + lineIn(new Throwable()) + ": a call that throws changed something");
            }
        }
    }

    private static String told(PaperlessRegistry x, Call call) {
        try {
            return "" + call.of(x);
        } catch (RuntimeException e) {
            return e.getClass().getSimpleName();
        }
    }

    private static void fault(String text) {
        faults.add(text);
    }

    private static int lineIn(Throwable at) {
        for (StackTraceElement frame : at.getStackTrace()) {
            if (frame.getMethodName().equals(running)) {
                return frame.getLineNumber();
            }
        }
        return 0;
    }

    /** All that can be asked, and what further calls make of it; about 400 calls in a full room. */
    static String wholeState(PaperlessRegistry x) {
        return state(x) + " then " + goOn(x) + " then " + state(x);
    }

    private static String state(PaperlessRegistry x) {
        StringBuilder all = new StringBuilder();
        // The checksum at both ends: a question that changes something would hide it from the first one.
        all.append(x.digest()).append(' ').append(x.rightPart());
        for (int word = 0; word < 12; word++) {
            for (int kind = 0; kind < 4; kind++) {
                all.append(' ').append(x.weight(word, kind));
            }
            all.append(' ').append(x.classFor(1 << word));
        }
        int letters = x.many(1);
        for (int n = 0; n < letters; n++) {
            for (int kind = 0; kind < 4; kind++) {
                all.append(' ').append(x.changedBy(n, kind));
            }
        }
        all.append(' ').append(x.missedIn(0)).append(' ').append(x.missedIn(60));
        all.append(' ').append(x.destroyedIn(1)).append(' ').append(x.destroyedIn(60));
        return all.append(' ').append(x.digest()).toString();
    }

    private static String goOn(PaperlessRegistry x) {
        Call[] calls = {y -> y.bar(4), y -> y.terms(0, 7, 3), y -> y.terms(2, 8, 4), y -> y.teach(0, 1),
            y -> y.join(0, 1), PaperlessRegistry::envelope, y -> y.scan(0, 0, NONE),
            y -> y.scan(y.many(0) - 1, 4095, 0), y -> y.scan(y.many(0) - 1, 3, NONE),
            y -> y.teach(y.many(1) - 1, 2), y -> y.answer(0), PaperlessRegistry::day, PaperlessRegistry::day};
        StringBuilder all = new StringBuilder();
        for (Call call : calls) {
            all.append(' ').append(told(x, call));
        }
        return all.toString();
    }

    // ---- rooms to start from

    /** A room with an envelope for each set of words, with one letter in it. */
    static PaperlessRegistry room(int... words) {
        PaperlessRegistry x = new PaperlessRegistry();
        for (int w : words) {
            x.scan(x.envelope(), w, NONE);
        }
        return x;
    }

    static PaperlessRegistry onDay(int today, PaperlessRegistry x) {
        for (int now = x.many(12); now < today; now++) {
            x.day();
        }
        return x;
    }

    static void lessons(PaperlessRegistry x, int letter, int kind, int count) {
        for (int n = 0; n < count; n++) {
            x.teach(letter, kind);
        }
    }

    static void scans(PaperlessRegistry x, int envelope, int words, int count) {
        for (int n = 0; n < count; n++) {
            x.scan(envelope, words, NONE);
        }
    }

    /**
     * Some of each, on day 1. Letter 0 is settled and answered, 1 settled, 2 has class 2 by its words, 3
     * is in doubt; 4 goes with 1, and 5 with 3. Files are 0 (of 0, 1, 4), 2, and 3 (of 3, 5). The
     * envelope 4 is empty.
     */
    static PaperlessRegistry some() {
        PaperlessRegistry x = room(1, 2, 1, 8);
        x.scan(1, 4, 0);
        x.scan(3, 32, NONE);
        lessons(x, 0, 2, 2);
        x.teach(1, 1);
        x.answer(0);
        x.day();
        x.envelope();
        return x;
    }

    /** All 16 envelopes, all 30 letters (the last 14 are enclosures of 15), 6 that wait; one word. */
    static PaperlessRegistry full() {
        PaperlessRegistry x = room(1, 1, 1, 1, 1, 1, 1, 1, 1, 1, 1, 1, 1, 1, 1, 1);
        scans(x, 15, 1, 14);
        return x;
    }

    /** One envelope with all 30 letters, which is settled. */
    static PaperlessRegistry oneEnvelope() {
        PaperlessRegistry x = room(1);
        scans(x, 0, 0, 29);
        x.teach(0, 0);
        return x;
    }

    /** A room on that day, in which a letter was answered, and another one stays open. */
    static PaperlessRegistry answeredOn(int today, int keep) {
        PaperlessRegistry x = room(1, 2);
        x.scan(0, 0, NONE);
        x.terms(0, 60, keep);
        x.teach(0, 0);
        onDay(today, x).answer(0);
        return x;
    }
}
