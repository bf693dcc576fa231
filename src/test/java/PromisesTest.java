import java.util.function.DoubleSupplier;
import java.util.function.IntSupplier;

/** Promise by promise: ordinary inputs, the edges that the document names, and wrong inputs. */
public final class PromisesTest {
    private static final int NONE = -1;
    private static final String BOUNDS = "IndexOutOfBoundsException";
    private static final String ARGUMENT = "IllegalArgumentException";
    private static final String STATE = "IllegalStateException";

    private static int wrong = 0;
    private static String promise = "";

    public static void main(String[] args) {
        newObject();
        envelope();
        scan();
        scanRefuses();
        ofLetter();
        classFollows();
        score();
        confidence();
        terms();
        bar();
        teach();
        teachChangesOthers();
        weight();
        ofClass();
        join();
        answer();
        ofFile();
        onShelf();
        day();
        dayDestroys();
        sample();
        many();
        rightPart();
        classFor();
        changedBy();
        missedIn();
        destroyedIn();
        digest();
        System.out.println(wrong == 0 ? "all promises are kept" : wrong + " answers are not as due");
        if (wrong != 0) {
            System.exit(1);
        }
    }

    // ---- how answers are looked at

    private static void due(int want, IntSupplier call) {
        String got;
        try {
            got = "" + call.getAsInt();
        } catch (RuntimeException e) {
            got = e.getClass().getSimpleName();
        }
        compare("" + want, got);
    }

    private static void dueD(double want, DoubleSupplier call) {
        compare("" + want, "" + call.getAsDouble());
    }

    private static void thrown(String want, IntSupplier call) {
        String got;
        try {
            got = "" + call.getAsInt();
        } catch (RuntimeException e) {
            got = e.getClass().getSimpleName();
        }
        compare(want, got);
    }

    private static void compare(String want, String got) {
        if (!want.equals(got)) {
            wrong++;
            StackTraceElement at = new Throwable().getStackTrace()[2];
            System.out.println(promise + ", line " + at.getLineNumber() + ": answered " + got + ", due is " + want);
        }
    }

    // ---- rooms to start from

    /** A room with an envelope for each set of words, with one letter in it. */
    private static PaperlessRegistry room(int... words) {
        PaperlessRegistry x = new PaperlessRegistry();
        for (int w : words) {
            x.scan(x.envelope(), w, NONE);
        }
        return x;
    }

    private static void days(PaperlessRegistry x, int count) {
        for (int n = 0; n < count; n++) {
            x.day();
        }
    }

    private static void lessons(PaperlessRegistry x, int letter, int kind, int count) {
        for (int n = 0; n < count; n++) {
            x.teach(letter, kind);
        }
    }

    // ---- the promises

    private static void newObject() {
        promise = "1 a new object";
        PaperlessRegistry x = new PaperlessRegistry();
        for (int what = 0; what <= 12; what++) {
            int w = what;
            due(0, () -> x.many(w));
        }
        for (int kind = 0; kind < 4; kind++) {
            int k = kind;
            due(14, () -> x.ofClass(k, 0));
            due(10, () -> x.ofClass(k, 1));
            for (int what = 2; what <= 6; what++) {
                int w = what;
                due(0, () -> x.ofClass(k, w));
            }
            for (int word = 0; word < 12; word++) {
                int w = word;
                due(0, () -> x.weight(w, k));
            }
        }
        due(3, () -> x.bar(3));
        due(0, () -> x.onShelf(0));
        thrown(BOUNDS, () -> x.sample(0));
    }

    private static void envelope() {
        promise = "2 envelope";
        PaperlessRegistry x = new PaperlessRegistry();
        for (int n = 0; n < 16; n++) {
            due(n, x::envelope);
        }
        thrown(STATE, x::envelope);
        due(16, () -> x.many(0));
        PaperlessRegistry other = new PaperlessRegistry();
        due(0, other::envelope);
    }

    private static void scan() {
        promise = "3 scan";
        PaperlessRegistry x = new PaperlessRegistry();
        x.envelope();
        x.envelope();
        due(0, () -> x.scan(1, 4095, NONE));
        due(1, () -> x.scan(0, 0, NONE));
        due(2, () -> x.scan(1, 5, 1));
        due(0, () -> x.ofLetter(2, 3));
        due(1, () -> x.ofLetter(1, 3));
        due(0, () -> x.ofLetter(1, 9));
        due(3, () -> x.scan(0, 1, 3 - 1));
        x.envelope();
        x.day();
        due(4, () -> x.scan(2, 1, NONE));
        due(1, () -> x.ofLetter(4, 2));
    }

    private static void scanRefuses() {
        promise = "3 scan";
        PaperlessRegistry x = room(3);
        long before = x.digest();
        thrown(BOUNDS, () -> x.scan(1, -1, 0));
        thrown(BOUNDS, () -> x.scan(-1, 0, 0));
        thrown(BOUNDS, () -> x.scan(0, 4096, 1));
        thrown(BOUNDS, () -> x.scan(0, 0, -2));
        thrown(BOUNDS, () -> x.scan(Integer.MIN_VALUE, 0, NONE));
        thrown(BOUNDS, () -> x.scan(Integer.MAX_VALUE, 0, NONE));
        thrown(ARGUMENT, () -> x.scan(0, 4096, 0));
        thrown(ARGUMENT, () -> x.scan(0, -1, NONE));
        x.teach(0, 0);
        x.answer(0);
        thrown(ARGUMENT, () -> x.scan(0, 4096, NONE));
        thrown(STATE, () -> x.scan(0, 0, NONE));
        due(1, () -> x.many(1));

        PaperlessRegistry late = room(3);
        late.day();
        thrown(STATE, () -> late.scan(0, 0, NONE));
        thrown(BOUNDS, () -> late.scan(0, 0, 1));

        PaperlessRegistry full = room(0);
        for (int n = 1; n < 30; n++) {
            int number = n;
            due(number, () -> full.scan(0, 0, NONE));
        }
        full.envelope();
        thrown(STATE, () -> full.scan(0, 0, NONE));
        thrown(STATE, () -> full.scan(1, 0, 29));
        thrown(BOUNDS, () -> full.scan(1, 0, 30));
        thrown(ARGUMENT, () -> full.scan(1, 4096, 29));
        due(30, () -> full.many(1));

        PaperlessRegistry same = room(3);
        thrown(BOUNDS, () -> same.scan(0, 0, 1));
        due(0, () -> same.digest() == before ? 0 : 1);
    }

    private static void ofLetter() {
        promise = "4 ofLetter";
        PaperlessRegistry x = room(1);
        x.day();
        x.scan(x.envelope(), 6, 0);
        x.scan(1, 9, NONE);
        int[] before = {1, 9, 1, 1, NONE, NONE, 0, 0, 0, 0, 0};
        for (int what = 0; what <= 10; what++) {
            int w = what;
            due(before[w], () -> x.ofLetter(2, w));
        }
        x.terms(2, 1, 0);
        x.teach(2, 2);
        due(2, () -> x.ofLetter(1, 4));
        due(2, () -> x.ofLetter(2, 5));
        due(1, () -> x.ofLetter(2, 6));
        days(x, 1);
        due(0, () -> x.ofLetter(2, 8));
        days(x, 1);
        due(1, () -> x.ofLetter(2, 8));
        due(1, () -> x.ofLetter(1, 8));
        due(0, () -> x.ofLetter(0, 8));
        x.terms(2, 2, 0);
        due(3, () -> x.ofLetter(2, 5));
        due(0, () -> x.ofLetter(2, 8));
        x.terms(2, 1, 0);
        x.answer(2);
        due(1, () -> x.ofLetter(1, 7));
        due(1, () -> x.ofLetter(2, 7));
        due(0, () -> x.ofLetter(2, 8));
        due(2, () -> x.ofLetter(2, 5));
        x.day();
        due(0, () -> x.ofLetter(2, 10));
        x.teach(0, 2);
        x.answer(0);
        x.day();
        due(NONE, () -> x.ofLetter(2, 10));
        thrown(BOUNDS, () -> x.ofLetter(3, 11));
        thrown(BOUNDS, () -> x.ofLetter(-1, 0));
        thrown(ARGUMENT, () -> x.ofLetter(2, 11));
        thrown(ARGUMENT, () -> x.ofLetter(2, -1));
    }

    /** A class, and what hangs on it, is as words, weights, bar and terms are now. */
    private static void classFollows() {
        promise = "4 ofLetter";
        PaperlessRegistry x = room(1, 2);
        lessons(x, 0, 0, 2);
        lessons(x, 1, 1, 4);
        x.scan(x.envelope(), 0, NONE);
        due(NONE, () -> x.ofLetter(2, 4));
        // An enclosure's words give its main letter a class, and the next one's another class.
        x.scan(2, 1, NONE);
        due(0, () -> x.ofLetter(2, 4));
        due(14, () -> x.ofLetter(2, 5));
        x.scan(2, 2, NONE);
        due(1, () -> x.ofLetter(2, 4));
        due(1, () -> x.ofLetter(3, 4));
        due(1, () -> x.ofLetter(4, 4));
        x.answer(4);
        // A lesson about another letter, which takes an answered one its class and its deadline.
        due(1, () -> x.teach(0, 0));
        due(NONE, () -> x.ofLetter(3, 4));
        due(NONE, () -> x.ofLetter(3, 5));
        x.bar(2);
        due(1, () -> x.ofLetter(3, 4));
        x.terms(1, 60, 0);
        due(60, () -> x.ofLetter(3, 5));
        // Words that are refused bring no class.
        thrown(STATE, () -> x.scan(2, 1, NONE));
        due(1, () -> x.ofLetter(2, 4));
    }

    private static void score() {
        promise = "5 score";
        PaperlessRegistry x = room(3, 6, 8);
        x.teach(0, 1);
        x.teach(1, 1);
        due(6, () -> x.score(0, 1));
        due(6, () -> x.score(1, 1));
        due(0, () -> x.score(1, 0));
        due(0, () -> x.score(2, 1));
        // Each word once, though main letter and enclosure share it.
        x.scan(2, 10, NONE);
        due(4, () -> x.score(2, 1));
        due(4, () -> x.score(3, 1));
        thrown(BOUNDS, () -> x.score(4, 0));
        thrown(BOUNDS, () -> x.score(-1, 0));
        thrown(BOUNDS, () -> x.score(0, 4));
        thrown(BOUNDS, () -> x.score(0, -1));
    }

    private static void confidence() {
        promise = "6 confidence";
        PaperlessRegistry x = room(1, 2, 3, 0);
        lessons(x, 0, 0, 2);
        x.teach(1, 1);
        due(4, () -> x.confidence(0));
        due(2, () -> x.confidence(1));
        due(2, () -> x.confidence(2));
        due(0, () -> x.confidence(3));
        x.teach(1, 3);
        x.teach(1, 3);
        due(4, () -> x.confidence(1));
        due(0, () -> x.confidence(2));
        x.scan(3, 1, NONE);
        due(4, () -> x.confidence(4));
        thrown(BOUNDS, () -> x.confidence(5));
        thrown(BOUNDS, () -> x.confidence(-1));
    }

    private static void terms() {
        promise = "7 terms";
        PaperlessRegistry x = room(1);
        x.teach(0, 3);
        due(14, () -> x.terms(3, 60, 60));
        due(60, () -> x.ofLetter(0, 5));
        due(60, () -> x.terms(3, 1, 0));
        due(1, () -> x.ofLetter(0, 5));
        due(0, () -> x.ofClass(3, 1));
        due(14, () -> x.ofClass(2, 0));
        thrown(BOUNDS, () -> x.terms(4, 0, 61));
        thrown(BOUNDS, () -> x.terms(-1, 1, 1));
        thrown(ARGUMENT, () -> x.terms(3, 0, 1));
        thrown(ARGUMENT, () -> x.terms(3, 61, 1));
        thrown(ARGUMENT, () -> x.terms(3, 5, -1));
        thrown(ARGUMENT, () -> x.terms(3, 5, 61));
        due(1, () -> x.ofClass(3, 0));
        due(0, () -> x.ofClass(3, 1));
    }

    private static void bar() {
        promise = "8 bar";
        PaperlessRegistry x = room(1, 1);
        x.teach(0, 0);
        due(NONE, () -> x.ofLetter(1, 4));
        due(3, () -> x.bar(2));
        due(0, () -> x.ofLetter(1, 4));
        due(2, () -> x.bar(1));
        due(1, () -> x.bar(20));
        due(NONE, () -> x.ofLetter(1, 4));
        due(0, () -> x.ofLetter(0, 4));
        thrown(ARGUMENT, () -> x.bar(0));
        thrown(ARGUMENT, () -> x.bar(21));
        thrown(ARGUMENT, () -> x.bar(Integer.MIN_VALUE));
        due(20, () -> x.bar(20));
    }

    private static void teach() {
        promise = "9 teach";
        PaperlessRegistry x = room(1);
        x.scan(0, 3, NONE);
        due(0, () -> x.teach(1, 2));
        due(2, () -> x.weight(0, 2));
        due(2, () -> x.weight(1, 2));
        due(0, () -> x.weight(2, 2));
        due(1, () -> x.ofLetter(0, 6));
        due(2, () -> x.ofLetter(0, 4));
        // It keeps the told class, whatever its score is, till another lesson.
        lessons(x, 0, 2, 8);
        due(18, () -> x.weight(0, 2));
        x.teach(0, 1);
        due(1, () -> x.ofLetter(0, 4));
        due(17, () -> x.weight(0, 2));
        due(2, () -> x.weight(0, 1));
        lessons(x, 0, 2, 1);
        due(19, () -> x.weight(0, 2));
        lessons(x, 0, 2, 1);
        due(20, () -> x.weight(0, 2));
        due(0, () -> x.weight(0, 1));
        lessons(x, 0, 2, 1);
        due(20, () -> x.weight(0, 2));
        due(0, () -> x.weight(0, 1));
        thrown(BOUNDS, () -> x.teach(2, 0));
        thrown(BOUNDS, () -> x.teach(-1, 0));
        thrown(BOUNDS, () -> x.teach(0, 4));
        thrown(BOUNDS, () -> x.teach(0, -1));
        x.answer(1);
        thrown(STATE, () -> x.teach(0, 0));
        thrown(STATE, () -> x.teach(1, 0));
        thrown(BOUNDS, () -> x.teach(0, 4));
        due(13, () -> x.many(11));
    }

    private static void teachChangesOthers() {
        promise = "9 teach";
        PaperlessRegistry x = room(1, 1, 1, 2);
        x.scan(1, 0, NONE);
        due(0, () -> x.teach(0, 0));
        // From doubt to a class: the two others with that word, their enclosure not counted.
        due(2, () -> x.teach(0, 0));
        x.answer(2);
        // From a class to doubt, answered or not.
        due(2, () -> x.teach(0, 1));
        due(NONE, () -> x.ofLetter(2, 4));
        x.teach(1, 3);
        due(NONE, () -> x.ofLetter(2, 4));
        // A settled one does not change: of 1 and 2, that is 2 alone.
        due(1, () -> x.teach(0, 3));
        due(3, () -> x.ofLetter(2, 4));
    }

    private static void weight() {
        promise = "10 weight";
        PaperlessRegistry x = room(2049);
        x.teach(0, 3);
        due(2, () -> x.weight(0, 3));
        due(2, () -> x.weight(11, 3));
        due(0, () -> x.weight(10, 3));
        due(0, () -> x.weight(11, 0));
        thrown(BOUNDS, () -> x.weight(12, 0));
        thrown(BOUNDS, () -> x.weight(-1, 0));
        thrown(BOUNDS, () -> x.weight(0, 4));
        thrown(BOUNDS, () -> x.weight(0, -1));
    }

    private static void ofClass() {
        promise = "11 ofClass";
        PaperlessRegistry x = room(1, 1, 1, 2);
        x.scan(0, 1, NONE);
        x.terms(1, 2, 7);
        lessons(x, 0, 1, 2);
        due(2, () -> x.ofClass(1, 0));
        due(7, () -> x.ofClass(1, 1));
        due(3, () -> x.ofClass(1, 2));
        due(0, () -> x.ofClass(1, 3));
        due(2, () -> x.ofClass(1, 4));
        due(1, () -> x.ofClass(1, 5));
        due(0, () -> x.ofClass(1, 6));
        // A lesson counts for the class that was told.
        x.teach(1, 2);
        due(1, () -> x.ofClass(2, 6));
        due(0, () -> x.ofClass(1, 6));
        due(0, () -> x.ofClass(2, 5));
        due(1, () -> x.ofClass(2, 4));
        lessons(x, 0, 1, 2);
        days(x, 3);
        due(2, () -> x.ofClass(1, 3));
        x.answer(2);
        due(2, () -> x.ofClass(1, 2));
        due(1, () -> x.ofClass(1, 3));
        due(1, () -> x.many(6));
        x.answer(0);
        due(0, () -> x.ofClass(1, 3));
        thrown(BOUNDS, () -> x.ofClass(4, 7));
        thrown(BOUNDS, () -> x.ofClass(-1, 0));
        thrown(ARGUMENT, () -> x.ofClass(0, 7));
        thrown(ARGUMENT, () -> x.ofClass(0, -1));
    }

    private static void join() {
        promise = "12 join";
        PaperlessRegistry x = room(0, 0, 0, 0, 0);
        due(2, () -> x.join(4, 3));
        due(3, () -> x.ofLetter(4, 9));
        due(2, () -> x.join(1, 2));
        due(4, () -> x.join(2, 4));
        due(1, () -> x.ofLetter(3, 9));
        due(1, () -> x.ofLetter(4, 9));
        due(4, () -> x.join(3, 4));
        due(5, () -> x.join(4, 0));
        due(0, () -> x.ofLetter(2, 9));
        thrown(BOUNDS, () -> x.join(5, 0));
        thrown(BOUNDS, () -> x.join(0, 5));
        thrown(BOUNDS, () -> x.join(5, 5));
        thrown(BOUNDS, () -> x.join(-1, -1));
        thrown(ARGUMENT, () -> x.join(2, 2));
        // An enclosure brings its envelope along, a reference the file of what it refers to.
        PaperlessRegistry y = room(0, 0);
        y.scan(1, 0, NONE);
        y.scan(y.envelope(), 0, 2);
        due(3, () -> y.ofFile(1, 0));
        due(4, () -> y.join(0, 3));
    }

    private static void answer() {
        promise = "13 answer";
        PaperlessRegistry x = room(1, 2, 4, 8);
        x.scan(0, 1, NONE);
        thrown(STATE, () -> x.answer(0));
        x.teach(0, 0);
        x.teach(1, 0);
        x.teach(2, 0);
        x.terms(0, 2, 0);
        due(2, () -> x.answer(4));
        due(1, () -> x.ofLetter(0, 7));
        thrown(STATE, () -> x.answer(0));
        days(x, 2);
        due(0, () -> x.answer(1));
        x.day();
        due(-1, () -> x.answer(2));
        thrown(STATE, () -> x.answer(3));
        thrown(BOUNDS, () -> x.answer(5));
        thrown(BOUNDS, () -> x.answer(-1));
        due(3, () -> x.many(5));
    }

    private static void ofFile() {
        promise = "14 ofFile";
        PaperlessRegistry x = room(1, 2, 4);
        x.scan(2, 0, NONE);
        x.join(1, 2);
        due(3, () -> x.ofFile(1, 0));
        due(3, () -> x.ofFile(1, 1));
        due(NONE, () -> x.ofFile(1, 2));
        due(NONE, () -> x.ofFile(1, 3));
        due(3, () -> x.ofFile(1, 4));
        x.terms(0, 9, 1);
        x.terms(1, 5, 1);
        x.teach(1, 0);
        due(9, () -> x.ofFile(1, 2));
        x.teach(3, 1);
        due(5, () -> x.ofFile(1, 2));
        x.day();
        x.answer(2);
        due(9, () -> x.ofFile(1, 2));
        due(1, () -> x.ofFile(1, 1));
        due(NONE, () -> x.ofFile(1, 3));
        x.day();
        x.answer(1);
        due(NONE, () -> x.ofFile(1, 2));
        due(0, () -> x.ofFile(1, 1));
        due(2, () -> x.ofFile(1, 3));
        x.day();
        due(0, () -> x.ofFile(1, 4));
        due(3, () -> x.ofFile(1, 0));
        due(1, () -> x.ofFile(0, 4));
        // What was closed is so no more, with a new letter; it is what was destroyed.
        x.scan(x.envelope(), 0, 3);
        due(NONE, () -> x.ofFile(1, 3));
        due(1, () -> x.ofFile(1, 4));
        PaperlessRegistry empty = new PaperlessRegistry();
        thrown(BOUNDS, () -> empty.ofFile(0, 0));
        PaperlessRegistry full = fullRoom();
        thrown(BOUNDS, () -> full.ofFile(30, 0));
        // The first letter counts as any other one, alone in its file or not.
        PaperlessRegistry first = room(1, 2);
        due(1, () -> first.ofFile(0, 1));
        first.teach(0, 0);
        due(14, () -> first.ofFile(0, 2));
        first.join(0, 1);
        due(2, () -> first.ofFile(0, 1));
        due(14, () -> first.ofFile(0, 2));
        due(2, () -> first.ofFile(0, 4));
        thrown(BOUNDS, () -> x.ofFile(2, 0));
        thrown(BOUNDS, () -> x.ofFile(2, 5));
        thrown(BOUNDS, () -> x.ofFile(5, 0));
        thrown(BOUNDS, () -> x.ofFile(-1, 0));
        thrown(ARGUMENT, () -> x.ofFile(1, 5));
        thrown(ARGUMENT, () -> x.ofFile(1, -1));
    }

    private static void onShelf() {
        promise = "15 onShelf";
        PaperlessRegistry x = room(1);
        for (int n = 1; n < 30; n++) {
            x.scan(0, 0, NONE);
        }
        due(8, () -> x.onShelf(0));
        due(8, () -> x.onShelf(1));
        due(8, () -> x.onShelf(2));
        due(0, () -> x.ofLetter(7, 10));
        due(1, () -> x.ofLetter(8, 10));
        due(2, () -> x.ofLetter(23, 10));
        due(3, () -> x.ofLetter(24, 10));
        thrown(BOUNDS, () -> x.onShelf(3));
        thrown(BOUNDS, () -> x.onShelf(-1));
    }

    private static void day() {
        promise = "16 day";
        PaperlessRegistry x = room(1);
        for (int n = 1; n <= 199; n++) {
            due(0, x::day);
        }
        thrown(STATE, x::day);
        due(199, () -> x.many(12));
        due(0, () -> x.ofLetter(0, 2));
    }

    private static void dayDestroys() {
        promise = "16 day";
        // Envelope 0 has 4 letters, envelope 1 the 26 others: 6 of them wait.
        PaperlessRegistry x = room(1, 2);
        for (int n = 0; n < 3; n++) {
            x.scan(0, 0, NONE);
        }
        for (int n = 0; n < 25; n++) {
            x.scan(1, 0, NONE);
        }
        due(6, () -> x.many(9));
        x.teach(0, 0);
        x.terms(0, 3, 2);
        x.day();
        x.answer(0);
        due(0, x::day);
        due(4, x::day);
        due(4, () -> x.many(10));
        // The first four that waited took the places, on the first shelf.
        due(2, () -> x.many(9));
        due(8, () -> x.onShelf(0));
        due(0, () -> x.ofLetter(24, 10));
        due(0, () -> x.ofLetter(27, 10));
        due(3, () -> x.ofLetter(28, 10));
        due(NONE, () -> x.ofLetter(0, 10));
        // What waits is destroyed, too.
        x.teach(1, 1);
        x.terms(1, 5, 0);
        x.answer(1);
        due(26, x::day);
        due(30, () -> x.many(10));
        due(0, () -> x.many(9));
        due(0, () -> x.onShelf(2));

        // In doubt it stays; a class that comes back lets it go, though its day is long past.
        PaperlessRegistry y = room(1, 1);
        lessons(y, 0, 0, 2);
        y.terms(0, 5, 1);
        y.answer(1);
        y.bar(20);
        due(0, y::day);
        due(0, y::day);
        y.bar(3);
        due(1, y::day);
        due(0, y::day);
        due(1, () -> y.many(10));
    }

    private static void sample() {
        promise = "17 sample";
        PaperlessRegistry x = room(1, 2, 4, 8, 2, 1, 16);
        x.scan(0, 1, NONE);
        x.terms(0, 1, 1);
        lessons(x, 6, 3, 1);
        PaperlessRegistry y = x;
        // All in doubt without any score: by number, without the settled one.
        for (int n = 0; n < 6; n++) {
            int place = n;
            due(place, () -> y.sample(place));
        }
        thrown(BOUNDS, () -> y.sample(6));
        thrown(BOUNDS, () -> y.sample(-1));

        PaperlessRegistry z = room(1, 3, 4, 8, 5, 4, 16);
        // Letters 0, 2 settle classes 0 and 1; 3 and 6 are in doubt, 1 has class 0, 4 and 5 class 1.
        lessons(z, 0, 0, 2);
        lessons(z, 2, 1, 4);
        z.terms(0, 1, 1);
        due(3, () -> z.sample(0));
        due(6, () -> z.sample(1));
        due(1, () -> z.sample(2));
        due(4, () -> z.sample(3));
        due(5, () -> z.sample(4));
        thrown(BOUNDS, () -> z.sample(5));
        z.day();
        due(3, () -> z.sample(0));
        z.day();
        due(1, () -> z.sample(0));
        due(3, () -> z.sample(1));
        z.answer(1);
        due(3, () -> z.sample(0));
        due(1, () -> z.sample(2));
        z.terms(1, 1, 1);
        // Both missed, by confidence (4 and 8), ahead of doubt; 1 is answered, so not missed.
        due(4, () -> z.sample(0));
        due(5, () -> z.sample(1));
        due(3, () -> z.sample(2));
        due(6, () -> z.sample(3));
        due(1, () -> z.sample(4));
    }

    private static void many() {
        promise = "18 many";
        PaperlessRegistry x = room(1, 1, 2, 4);
        x.envelope();
        x.scan(0, 0, NONE);
        x.scan(3, 0, 2);
        lessons(x, 0, 0, 2);
        x.terms(0, 1, 1);
        x.teach(2, 1);
        x.answer(1);
        days(x, 2);
        int[] want = {5, 6, 4, 1, 2, 1, 1, 3, 1, 0, 1, 3, 2};
        for (int what = 0; what <= 12; what++) {
            int w = what;
            due(want[w], () -> x.many(w));
        }
        PaperlessRegistry one = room(1);
        one.teach(0, 0);
        due(0, () -> one.many(8));
        one.answer(0);
        due(1, () -> one.many(8));
        due(1, () -> one.many(7));
        thrown(ARGUMENT, () -> x.many(13));
        thrown(ARGUMENT, () -> x.many(-1));
    }

    private static void rightPart() {
        promise = "19 rightPart";
        PaperlessRegistry x = room(1, 2);
        dueD(0.0, x::rightPart);
        x.teach(0, 0);
        dueD(0.0, x::rightPart);
        x.teach(0, 1);
        dueD(0.0, x::rightPart);
        x.teach(0, 1);
        dueD(0.5, x::rightPart);
        x.teach(0, 1);
        dueD(2.0 / 3.0, x::rightPart);
        x.teach(1, 2);
        dueD(2.0 / 3.0, x::rightPart);
        x.teach(1, 0);
        dueD(2.0 / 4.0, x::rightPart);
        x.teach(1, 0);
        dueD(3.0 / 5.0, x::rightPart);
        x.teach(1, 3);
        dueD(3.0 / 6.0, x::rightPart);
    }

    private static void classFor() {
        promise = "20 classFor";
        PaperlessRegistry x = room(1, 2);
        due(NONE, () -> x.classFor(0));
        due(NONE, () -> x.classFor(4095));
        lessons(x, 0, 2, 2);
        x.teach(1, 1);
        due(2, () -> x.classFor(1));
        due(NONE, () -> x.classFor(2));
        due(NONE, () -> x.classFor(3));
        due(2, () -> x.classFor(4093));
        x.bar(2);
        due(1, () -> x.classFor(2));
        due(2, () -> x.classFor(3));
        x.bar(4);
        due(2, () -> x.classFor(1));
        x.bar(5);
        due(NONE, () -> x.classFor(1));
        thrown(ARGUMENT, () -> x.classFor(4096));
        thrown(ARGUMENT, () -> x.classFor(-1));
    }

    private static void changedBy() {
        promise = "21 changedBy";
        PaperlessRegistry x = room(1, 1, 1);
        x.teach(0, 0);
        long before = x.digest();
        due(2, () -> x.changedBy(0, 0));
        due(1, () -> x.changedBy(1, 0));
        due(0, () -> x.changedBy(1, 1));
        due(0, () -> x.digest() == before ? 0 : 1);
        due(2, () -> x.weight(0, 0));
        x.answer(0);
        due(2, () -> x.changedBy(0, 0));
        // The first letter is one of the others, too.
        PaperlessRegistry first = room(1, 1);
        first.teach(1, 2);
        due(1, () -> first.changedBy(1, 2));
        thrown(BOUNDS, () -> x.changedBy(3, 0));
        thrown(BOUNDS, () -> x.changedBy(-1, 0));
        thrown(BOUNDS, () -> x.changedBy(0, 4));
        thrown(BOUNDS, () -> x.changedBy(0, -1));
        due(1, () -> x.teach(1, 0));
    }

    private static void missedIn() {
        promise = "22 missedIn";
        PaperlessRegistry x = room(1, 2, 4, 8);
        x.scan(0, 0, NONE);
        x.terms(0, 1, 0);
        x.terms(1, 60, 0);
        x.teach(0, 0);
        x.teach(1, 1);
        x.teach(2, 0);
        x.answer(2);
        due(0, () -> x.missedIn(0));
        due(0, () -> x.missedIn(1));
        due(1, () -> x.missedIn(2));
        due(1, () -> x.missedIn(60));
        x.day();
        due(2, () -> x.missedIn(60));
        x.day();
        due(1, () -> x.missedIn(0));
        due(2, () -> x.many(12));
        thrown(ARGUMENT, () -> x.missedIn(-1));
        thrown(ARGUMENT, () -> x.missedIn(61));
        // Also beyond the day 199.
        PaperlessRegistry y = new PaperlessRegistry();
        days(y, 199);
        y.scan(y.envelope(), 1, NONE);
        y.teach(0, 0);
        due(0, () -> y.missedIn(14));
        due(1, () -> y.missedIn(15));
    }

    private static void destroyedIn() {
        promise = "23 destroyedIn";
        PaperlessRegistry x = room(1, 2);
        x.scan(0, 0, NONE);
        x.teach(0, 0);
        x.terms(0, 5, 2);
        x.answer(0);
        due(0, () -> x.destroyedIn(1));
        due(2, () -> x.destroyedIn(2));
        due(2, () -> x.destroyedIn(60));
        due(0, () -> x.many(10));
        days(x, 2);
        due(0, () -> x.destroyedIn(60));
        thrown(ARGUMENT, () -> x.destroyedIn(0));
        thrown(ARGUMENT, () -> x.destroyedIn(61));
        // Not behind the day 199.
        PaperlessRegistry y = room(1);
        days(y, 190);
        y.teach(0, 0);
        y.terms(0, 60, 10);
        y.answer(0);
        due(0, () -> y.destroyedIn(60));
        y.terms(0, 60, 9);
        due(0, () -> y.destroyedIn(8));
        due(1, () -> y.destroyedIn(9));
        due(1, () -> y.destroyedIn(60));
        y.terms(0, 60, 60);
        days(y, 9);
        y.terms(0, 60, 0);
        due(0, () -> y.destroyedIn(60));
        due(0, () -> y.many(10));
    }

    private static void digest() {
        promise = "24 digest";
        PaperlessRegistry x = room(1, 2, 3);
        compare("" + told(x), "" + x.digest());
        x.scan(2, 8, 1);
        lessons(x, 0, 3, 2);
        x.terms(3, 3, 4);
        days(x, 4);
        x.answer(0);
        x.scan(x.envelope(), 1, NONE);
        compare("" + told(x), "" + x.digest());
        compare("" + told(x), "" + x.digest());
        days(x, 4);
        compare("" + told(x), "" + x.digest());
        compare("" + told(new PaperlessRegistry()), "" + new PaperlessRegistry().digest());
        // 10 days to be missed, and 20 to be destroyed: one more or less tells another number.
        for (int edge = 9; edge <= 10; edge++) {
            PaperlessRegistry y = room(1, 2);
            y.terms(0, edge, edge + 10);
            y.teach(0, 0);
            y.teach(1, 0);
            y.answer(0);
            compare("" + told(y), "" + y.digest());
            due(10 - edge, () -> y.missedIn(10));
            due(1, () -> y.destroyedIn(20));
            y.terms(0, edge, edge + 11);
            compare("" + told(y), "" + y.digest());
            due(10 - edge, () -> y.destroyedIn(20));
        }
        PaperlessRegistry full = fullRoom();
        compare("" + told(full), "" + full.digest());
    }

    /** A room with all 16 envelopes, all 30 letters, and some of everything. */
    private static PaperlessRegistry fullRoom() {
        PaperlessRegistry x = room(1, 2, 4, 8, 16, 32, 64, 128, 256, 512, 1024, 2048, 1, 2, 4, 8);
        for (int n = 16; n < 30; n++) {
            x.scan(n - 16, 1 << (n % 5), n % 3 == 0 ? n - 1 : NONE);
        }
        x.terms(0, 2, 1);
        lessons(x, 0, 0, 3);
        lessons(x, 1, 1, 3);
        days(x, 3);
        x.answer(12);
        return x;
    }

    /** The checksum, from the answers of the calls that the document names. */
    private static long told(PaperlessRegistry x) {
        long d = 58122;
        for (int what = 0; what <= 12; what++) {
            d = d * 31 + x.many(what);
        }
        int count = x.many(1);
        for (int n = 0; n < count; n++) {
            for (int what = 0; what <= 10; what++) {
                d = d * 31 + x.ofLetter(n, what);
            }
            for (int kind = 0; kind < 4; kind++) {
                d = d * 31 + x.score(n, kind);
            }
            d = d * 31 + x.confidence(n);
        }
        for (int kind = 0; kind < 4; kind++) {
            for (int what = 0; what <= 6; what++) {
                d = d * 31 + x.ofClass(kind, what);
            }
        }
        for (int n = 0; n < count; n++) {
            if (x.ofLetter(n, 9) == n) {
                for (int what = 0; what <= 4; what++) {
                    d = d * 31 + x.ofFile(n, what);
                }
            }
        }
        for (int shelf = 0; shelf < 3; shelf++) {
            d = d * 31 + x.onShelf(shelf);
        }
        int size = x.many(2) - x.many(4);
        for (int place = 0; place < size; place++) {
            d = d * 31 + x.sample(place);
        }
        d = d * 31 + x.missedIn(10);
        return d * 31 + x.destroyedIn(20);
    }
}
