import java.math.BigInteger;
import java.util.ArrayList;
import java.util.List;

/** The boundary cases of the promises 1 to 24. */
final class PromisesEdges extends Edges {
    // ---- promise 1: a new object

    @Says(in = "Promise 1", value = "Creates a post room without ENVELOPES.")
    static void newRoomIsEmpty() {
        PaperlessRegistry x = new PaperlessRegistry();
        for (int what = 0; what <= 12; what++) {
            due(0, x.many(what));
        }
        for (int shelf = 0; shelf < 3; shelf++) {
            due(0, x.onShelf(shelf));
        }
        due(0, x.missedIn(60));
        due(0, x.destroyedIn(60));
        due(0.0, x.rightPart());
        due(NONE, x.classFor(4095));
        refused(BOUNDS, PaperlessRegistry::new, y -> y.scan(0, 0, NONE), y -> y.ofLetter(0, 0), y -> y.score(0, 0),
                y -> y.confidence(0), y -> y.teach(0, 0), y -> y.join(0, 1), y -> y.answer(0), y -> y.ofFile(0, 0),
                y -> y.sample(0), y -> y.changedBy(0, 0));
        // One room knows nothing of another one.
        full();
        due(0, new PaperlessRegistry().envelope());
    }

    // ---- promise 2: envelope

    @Says(in = "Promise 2", value = "Throws `IllegalStateException` if there are 16")
    static void envelopeWithSixteen() {
        PaperlessRegistry x = room(1, 1, 1, 1, 1, 1, 1, 1, 1, 1, 1, 1, 1, 1, 1);
        due(15, x.envelope());
        refused(STATE, Edges::full, PaperlessRegistry::envelope);
        refused(STATE, () -> {
            PaperlessRegistry y = room();
            for (int n = 0; n < 16; n++) {
                y.envelope();
            }
            return y;
        }, PaperlessRegistry::envelope);
    }

    // ---- promise 3: scan

    private static final String SCAN_BOUNDS =
            "Throws `IndexOutOfBoundsException` if there is no such ENVELOPE, or LETTER (but NONE)";
    private static final String SCAN_STATE = "Throws `IllegalStateException` if there are 30, "
            + "or the MAIN LETTER of the ENVELOPE is ANSWERED, or came on another DAY";

    @Says(in = "Promise 3", value = SCAN_BOUNDS)
    static void scanWithoutSuchAnEnvelope() {
        due(6, some().scan(4, 0, NONE));
        refused(BOUNDS, Edges::some, x -> x.scan(5, 0, NONE), x -> x.scan(-1, 0, NONE), x -> x.scan(MAX, 0, NONE),
                x -> x.scan(MIN, 0, NONE), x -> x.scan(16, 0, NONE), x -> x.scan(15, 0, NONE));
    }

    @Says(in = "Promise 3", value = SCAN_BOUNDS)
    static void scanWithoutSuchALetter() {
        due(6, some().scan(4, 0, 5));
        due(6, some().scan(4, 0, 0));
        due(6, some().scan(4, 0, NONE));
        // The number that it gets itself is that of no letter yet.
        refused(BOUNDS, Edges::some, x -> x.scan(4, 0, 6), x -> x.scan(4, 0, -2), x -> x.scan(4, 0, MAX),
                x -> x.scan(4, 0, MIN), x -> x.scan(4, 0, 29), x -> x.scan(4, 0, 30));
    }

    @Says(in = "Promise 3", value = "Throws `IllegalArgumentException` if words is not 0 to 4095")
    static void scanWithoutSuchWords() {
        due(6, some().scan(4, 0, NONE));
        due(6, some().scan(4, 4095, NONE));
        refused(ARGUMENT, Edges::some, x -> x.scan(4, -1, NONE), x -> x.scan(4, 4096, NONE),
                x -> x.scan(4, MIN, NONE), x -> x.scan(4, MAX, 0));
    }

    @Says(in = "Promise 3", value = SCAN_STATE)
    static void scanWithThirty() {
        Recipe thirty = () -> {
            PaperlessRegistry x = oneEnvelope();
            x.envelope();
            return x;
        };
        PaperlessRegistry x = room(1);
        scans(x, 0, 0, 28);
        due(29, x.scan(0, 0, 28));
        refused(STATE, thirty, y -> y.scan(0, 0, NONE), y -> y.scan(1, 4095, NONE), y -> y.scan(1, 0, 29));
        refused(STATE, Edges::full, y -> y.scan(15, 0, NONE));
    }

    @Says(in = "Promise 3", value = SCAN_STATE)
    static void scanWithItsMainAnswered() {
        Recipe answered = () -> {
            PaperlessRegistry x = room(1, 2);
            x.teach(0, 0);
            x.answer(0);
            return x;
        };
        refused(STATE, answered, x -> x.scan(0, 4, NONE), x -> x.scan(0, 2, 1));
        due(2, answered.make().scan(1, 0, 0));
        // Answered over an enclosure.
        refused(STATE, () -> {
            PaperlessRegistry x = room(1);
            x.scan(0, 2, NONE);
            x.teach(1, 0);
            x.answer(1);
            return x;
        }, x -> x.scan(0, 0, NONE));
    }

    @Says(in = "Promise 3", value = SCAN_STATE)
    static void scanOnAnotherDay() {
        Recipe nextDay = () -> {
            PaperlessRegistry x = room(1);
            x.scan(0, 2, NONE);
            x.envelope();
            x.day();
            return x;
        };
        refused(STATE, nextDay, x -> x.scan(0, 4, NONE), x -> x.scan(0, 8, 1));
        // An envelope without a letter has none that came on another day.
        PaperlessRegistry x = nextDay.make();
        due(2, x.scan(1, 0, NONE));
        due(3, x.scan(1, 0, NONE));
        x.day();
        thrown(STATE, x, y -> y.scan(1, 0, NONE));
    }

    // ---- promise 4: ofLetter

    @Says(in = "Promise 4", value = "Throws `IndexOutOfBoundsException` if there is no such LETTER")
    static void ofLetterWithoutSuchALetter() {
        due(0, full().ofLetter(0, 0));
        due(15, full().ofLetter(29, 0));
        refused(BOUNDS, Edges::some, x -> x.ofLetter(6, 0), x -> x.ofLetter(-1, 0), x -> x.ofLetter(29, 10),
                x -> x.ofLetter(MAX, 0), x -> x.ofLetter(MIN, 0));
        refused(BOUNDS, Edges::full, x -> x.ofLetter(30, 0));
    }

    @Says(in = "Promise 4", value = "Throws `IllegalArgumentException` if what is not 0 to 10")
    static void ofLetterWithoutSuchAWhat() {
        due(3, some().ofLetter(5, 0));
        due(0, some().ofLetter(5, 10));
        refused(ARGUMENT, Edges::some, x -> x.ofLetter(0, 11), x -> x.ofLetter(0, -1), x -> x.ofLetter(5, MAX),
                x -> x.ofLetter(5, MIN));
    }

    @Says(in = "Promise 4", value = "10 the SHELF of its original, 3 if that WAITS, NONE if it was DESTROYED")
    static void shelfOfALetter() {
        PaperlessRegistry x = oneEnvelope();
        x.terms(0, 1, 0);
        for (int n = 0; n < 30; n++) {
            due(n / 8, x.ofLetter(n, 10));
        }
        x.answer(0);
        x.day();
        for (int n = 0; n < 30; n++) {
            due(NONE, x.ofLetter(n, 10));
        }
    }

    // ---- promises 5 and 6: score, confidence

    private static final String LETTER_OR_CLASS =
            "Throws `IndexOutOfBoundsException` if there is no such LETTER, or CLASS";

    @Says(in = "Promise 5", value = LETTER_OR_CLASS)
    static void scoreWithoutSuchALetter() {
        due(0, some().score(5, 2));
        due(4, some().score(0, 2));
        refused(BOUNDS, Edges::some, x -> x.score(6, 0), x -> x.score(-1, 0), x -> x.score(29, 0),
                x -> x.score(MAX, 0), x -> x.score(MIN, 0));
        refused(BOUNDS, Edges::full, x -> x.score(30, 3));
    }

    @Says(in = "Promise 5", value = LETTER_OR_CLASS)
    static void scoreWithoutSuchAClass() {
        due(0, some().score(0, 0));
        due(0, some().score(0, 3));
        refused(BOUNDS, Edges::some, x -> x.score(0, 4), x -> x.score(0, -1), x -> x.score(5, MAX),
                x -> x.score(5, MIN));
    }

    @Says(in = "Promise 6", value = "Throws `IndexOutOfBoundsException` if there is no such LETTER")
    static void confidenceWithoutSuchALetter() {
        due(4, some().confidence(0));
        due(0, some().confidence(5));
        due(0, full().confidence(29));
        refused(BOUNDS, Edges::some, x -> x.confidence(6), x -> x.confidence(-1), x -> x.confidence(29),
                x -> x.confidence(MAX), x -> x.confidence(MIN));
        refused(BOUNDS, Edges::full, x -> x.confidence(30));
    }

    // ---- promises 7 and 8: terms, bar

    @Says(in = "Promise 7", value = "Throws `IndexOutOfBoundsException` if there is no such CLASS")
    static void termsWithoutSuchAClass() {
        due(14, some().terms(0, 5, 5));
        due(14, some().terms(3, 5, 5));
        refused(BOUNDS, Edges::some, x -> x.terms(4, 5, 5), x -> x.terms(-1, 5, 5), x -> x.terms(MAX, 5, 5),
                x -> x.terms(MIN, 5, 5));
    }

    private static final String TERMS_ARGUMENT =
            "Throws `IllegalArgumentException` if limit is not 1 to 60, or keep is not 0 to 60";

    @Says(in = "Promise 7", value = TERMS_ARGUMENT)
    static void termsWithoutSuchALimit() {
        PaperlessRegistry x = some();
        due(14, x.terms(2, 1, 5));
        due(1, x.ofClass(2, 0));
        due(1, x.terms(2, 60, 5));
        due(60, x.ofClass(2, 0));
        refused(ARGUMENT, Edges::some, y -> y.terms(2, 0, 5), y -> y.terms(2, 61, 5), y -> y.terms(0, -1, 5),
                y -> y.terms(2, MAX, 5), y -> y.terms(2, MIN, 5));
    }

    @Says(in = "Promise 7", value = TERMS_ARGUMENT)
    static void termsWithoutSuchAKeep() {
        PaperlessRegistry x = some();
        x.terms(2, 5, 0);
        due(0, x.ofClass(2, 1));
        x.terms(2, 5, 60);
        due(60, x.ofClass(2, 1));
        refused(ARGUMENT, Edges::some, y -> y.terms(2, 5, -1), y -> y.terms(2, 5, 61), y -> y.terms(2, 5, MAX),
                y -> y.terms(2, 5, MIN), y -> y.terms(2, 0, 61));
    }

    @Says(in = "Promise 7", value = "Returns the LIMIT before.")
    static void limitBefore() {
        PaperlessRegistry x = some();
        due(14, x.terms(1, 60, 0));
        due(60, x.terms(1, 60, 60));
        due(60, x.terms(1, 1, 1));
        due(1, x.terms(1, 2, 2));
        due(14, x.terms(0, 2, 2));
    }

    @Says(in = "Promise 8", value = "Throws `IllegalArgumentException` if bar is not 1 to 20")
    static void barThatIsNoBar() {
        due(3, some().bar(1));
        due(3, some().bar(20));
        refused(ARGUMENT, Edges::some, x -> x.bar(0), x -> x.bar(21), x -> x.bar(-1), x -> x.bar(MAX),
                x -> x.bar(MIN));
    }

    @Says(in = "Promise 8", value = "Returns the one before.")
    static void barBefore() {
        PaperlessRegistry x = room();
        due(3, x.bar(1));
        due(1, x.bar(20));
        due(20, x.bar(20));
        due(20, x.bar(3));
    }

    // ---- promise 9: teach

    @Says(in = "Promise 9", value = LETTER_OR_CLASS)
    static void teachWithoutSuchALetter() {
        due(0, some().teach(5, 0));
        due(0, full().teach(29, 0));
        refused(BOUNDS, Edges::some, x -> x.teach(6, 0), x -> x.teach(-1, 0), x -> x.teach(29, 0),
                x -> x.teach(MAX, 0), x -> x.teach(MIN, 0));
        refused(BOUNDS, Edges::full, x -> x.teach(30, 3));
    }

    @Says(in = "Promise 9", value = LETTER_OR_CLASS)
    static void teachWithoutSuchAClass() {
        PaperlessRegistry x = some();
        x.teach(5, 3);
        due(3, x.ofLetter(3, 4));
        x.teach(5, 0);
        due(0, x.ofLetter(3, 4));
        refused(BOUNDS, Edges::some, y -> y.teach(5, 4), y -> y.teach(5, -1), y -> y.teach(5, MAX),
                y -> y.teach(5, MIN));
    }

    @Says(in = "Promise 9", value = "Throws `IllegalStateException` if it is ANSWERED")
    static void teachOfAnAnsweredOne() {
        refused(STATE, Edges::some, x -> x.teach(0, 0), x -> x.teach(0, 2));
        Recipe enclosed = () -> {
            PaperlessRegistry x = room(1, 1);
            x.scan(0, 2, NONE);
            lessons(x, 1, 0, 2);
            x.answer(0);
            return x;
        };
        // Not settled, but answered; over its enclosure, too; in doubt by another bar, too.
        refused(STATE, enclosed, x -> x.teach(0, 0), x -> x.teach(2, 1));
        PaperlessRegistry x = enclosed.make();
        x.bar(20);
        thrown(STATE, x, y -> y.teach(2, 1));
        due(0, x.teach(1, 1));
    }

    @Says(in = "Promise 9", value = "Returns how many other MAIN LETTERS have another CLASS by that "
            + "(DOUBT as one, too).")
    static void othersChangedByALesson() {
        due(0, room(1).teach(0, 0));
        // All 15 others, not the 14 enclosures: from doubt, to another class, to doubt.
        PaperlessRegistry x = full();
        due(0, x.teach(0, 0));
        due(15, x.teach(0, 0));
        due(0, x.teach(0, 0));
        due(0, x.teach(0, 1));
        due(15, x.teach(0, 1));
        for (int n = 1; n < 30; n++) {
            due(NONE, x.ofLetter(n, 4));
        }
        // From one class to another one at once, at a bar of 1; answered ones are others, too.
        PaperlessRegistry y = room(1, 1, 1, 2);
        y.bar(1);
        due(2, y.teach(0, 0));
        y.answer(1);
        due(2, y.teach(0, 1));
        due(1, y.ofLetter(1, 4));
        // Not those that are settled, nor itself.
        due(0, y.teach(2, 1));
        due(0, y.teach(2, 0));
        due(1, y.teach(2, 0));
        due(0, y.ofLetter(1, 4));
        // The first letter is one of the others, too.
        PaperlessRegistry z = room(1, 1);
        z.bar(2);
        due(1, z.teach(1, 3));
    }

    // ---- promises 10 and 11: weight, ofClass

    @Says(in = "Promise 10", value = "Throws `IndexOutOfBoundsException` if there is no such WORD, or CLASS")
    static void weightWithoutSuchAWord() {
        due(4, some().weight(0, 2));
        due(0, some().weight(11, 2));
        refused(BOUNDS, Edges::some, x -> x.weight(12, 0), x -> x.weight(-1, 0), x -> x.weight(MAX, 0),
                x -> x.weight(MIN, 0));
    }

    @Says(in = "Promise 10", value = "Throws `IndexOutOfBoundsException` if there is no such WORD, or CLASS")
    static void weightWithoutSuchAClass() {
        due(0, some().weight(0, 0));
        due(0, some().weight(0, 3));
        refused(BOUNDS, Edges::some, x -> x.weight(0, 4), x -> x.weight(11, -1), x -> x.weight(0, MAX),
                x -> x.weight(0, MIN));
    }

    @Says(in = "Promise 11", value = "Throws `IndexOutOfBoundsException` if there is no such CLASS")
    static void ofClassWithoutSuchAClass() {
        due(14, some().ofClass(0, 0));
        due(14, some().ofClass(3, 0));
        // What is in doubt has no class that could be asked for.
        refused(BOUNDS, Edges::some, x -> x.ofClass(4, 0), x -> x.ofClass(-1, 2), x -> x.ofClass(MAX, 0),
                x -> x.ofClass(MIN, 6));
    }

    @Says(in = "Promise 11", value = "Throws `IllegalArgumentException` if what is not 0 to 6")
    static void ofClassWithoutSuchAWhat() {
        due(14, some().ofClass(2, 0));
        due(0, some().ofClass(2, 6));
        refused(ARGUMENT, Edges::some, x -> x.ofClass(2, 7), x -> x.ofClass(2, -1), x -> x.ofClass(0, MAX),
                x -> x.ofClass(3, MIN));
    }

    @Says(in = "Promise 11", value = "2 how many MAIN LETTERS have it, 3 how many of these are MISSED")
    static void mainsOfAClass() {
        PaperlessRegistry x = full();
        for (int kind = 0; kind < 4; kind++) {
            due(0, x.ofClass(kind, 2));
            due(0, x.ofClass(kind, 3));
        }
        lessons(x, 0, 0, 2);
        x.terms(0, 1, 0);
        due(16, x.ofClass(0, 2));
        onDay(1, x);
        due(0, x.ofClass(0, 3));
        x.day();
        due(16, x.ofClass(0, 3));
        due(0, x.ofClass(1, 3));
        x.answer(15);
        due(16, x.ofClass(0, 2));
        due(15, x.ofClass(0, 3));
    }

    // ---- promise 12: join

    @Says(in = "Promise 12", value = "Throws `IndexOutOfBoundsException` if there is no such LETTER")
    static void joinWithoutSuchALetter() {
        due(5, some().join(0, 5));
        refused(BOUNDS, Edges::some, x -> x.join(6, 0), x -> x.join(0, 6), x -> x.join(-1, 0), x -> x.join(0, -1),
                x -> x.join(0, MAX), x -> x.join(MIN, 0), x -> x.join(29, 5));
        refused(BOUNDS, Edges::full, x -> x.join(29, 30), x -> x.join(30, 0));
    }

    @Says(in = "Promise 12", value = "Throws `IllegalArgumentException` if they are the same")
    static void joinOfTheSame() {
        refused(ARGUMENT, Edges::some, x -> x.join(0, 0), x -> x.join(5, 5));
        refused(ARGUMENT, Edges::full, x -> x.join(29, 29));
        // Two of one envelope, or of one file, are not the same.
        PaperlessRegistry x = some();
        due(2, x.join(3, 5));
        due(2, x.join(5, 3));
    }

    @Says(in = "Promise 12", value = "Returns how many LETTERS are in their FILE then.")
    static void lettersOfTheJoined() {
        PaperlessRegistry x = room(1, 1, 1, 1, 1, 1, 1, 1, 1, 1, 1, 1, 1, 1, 1, 1);
        due(2, x.join(15, 14));
        due(2, x.join(14, 15));
        for (int n = 13; n >= 0; n--) {
            due(16 - n, x.join(n, 15));
        }
        scans(x, 0, 0, 14);
        due(30, x.join(29, 15));
        due(30, x.ofFile(0, 0));
    }

    // ---- promise 13: answer

    @Says(in = "Promise 13", value = "Throws `IndexOutOfBoundsException` if there is no such LETTER")
    static void answerWithoutSuchALetter() {
        due(13, some().answer(2));
        due(14, oneEnvelope().answer(29));
        refused(BOUNDS, Edges::some, x -> x.answer(6), x -> x.answer(-1), x -> x.answer(29), x -> x.answer(MAX),
                x -> x.answer(MIN));
        refused(BOUNDS, Edges::oneEnvelope, x -> x.answer(30));
    }

    @Says(in = "Promise 13", value = "Throws `IllegalStateException` if it is in DOUBT, or ANSWERED")
    static void answerInDoubt() {
        Recipe doubt = () -> {
            PaperlessRegistry x = room(1, 1);
            x.scan(1, 0, NONE);
            x.teach(0, 0);
            return x;
        };
        refused(STATE, doubt, x -> x.answer(1), x -> x.answer(2));
        // With a confidence of 2: at a bar of 2 it is in doubt no more.
        PaperlessRegistry x = doubt.make();
        x.bar(2);
        due(14, x.answer(2));
    }

    @Says(in = "Promise 13", value = "Throws `IllegalStateException` if it is in DOUBT, or ANSWERED")
    static void answerOfAnAnsweredOne() {
        Recipe answered = () -> {
            PaperlessRegistry x = room(1, 1);
            x.scan(1, 0, NONE);
            lessons(x, 0, 0, 2);
            x.answer(1);
            return onDay(1, x);
        };
        refused(STATE, answered, x -> x.answer(1), x -> x.answer(2));
        // In doubt and answered; and it stays as it was answered first.
        PaperlessRegistry x = answered.make();
        x.bar(20);
        thrown(STATE, x, y -> y.answer(1));
        due(0, x.ofFile(1, 3));
    }

    @Says(in = "Promise 13", value = "Returns how many DAYS are left to its DEADLINE (below 0: it was MISSED).")
    static void daysLeft() {
        PaperlessRegistry x = room(1, 2, 4, 8, 16);
        x.terms(0, 60, 0);
        x.terms(1, 1, 0);
        x.teach(0, 0);
        for (int n = 1; n < 5; n++) {
            x.teach(n, 1);
        }
        due(60, x.answer(0));
        due(1, x.answer(1));
        onDay(1, x);
        due(0, x.ofLetter(2, 8));
        due(0, x.answer(2));
        onDay(2, x);
        due(1, x.ofLetter(3, 8));
        due(-1, x.answer(3));
        onDay(199, x);
        due(-198, x.answer(4));
    }

    // ---- promise 14: ofFile

    @Says(in = "Promise 14", value = "Throws `IndexOutOfBoundsException` if that is the number of no FILE")
    static void ofFileWithoutSuchAFile() {
        due(3, some().ofFile(0, 0));
        due(1, some().ofFile(2, 0));
        due(2, some().ofFile(3, 0));
        refused(BOUNDS, Edges::some, x -> x.ofFile(1, 0), x -> x.ofFile(4, 0), x -> x.ofFile(5, 0),
                x -> x.ofFile(6, 0), x -> x.ofFile(-1, 0), x -> x.ofFile(29, 0), x -> x.ofFile(MAX, 0),
                x -> x.ofFile(MIN, 0));
        refused(BOUNDS, Edges::full, x -> x.ofFile(30, 0), x -> x.ofFile(29, 0));
        PaperlessRegistry x = some();
        x.join(2, 3);
        due(3, x.ofFile(2, 0));
        thrown(BOUNDS, x, y -> y.ofFile(3, 0));
    }

    @Says(in = "Promise 14", value = "Throws `IllegalArgumentException` if what is not 0 to 4")
    static void ofFileWithoutSuchAWhat() {
        due(3, some().ofFile(0, 0));
        due(3, some().ofFile(0, 4));
        refused(ARGUMENT, Edges::some, x -> x.ofFile(0, 5), x -> x.ofFile(0, -1), x -> x.ofFile(3, MAX),
                x -> x.ofFile(2, MIN));
    }

    @Says(in = "Promise 14", value = "0 how many LETTERS, 1 how many of these are not ANSWERED")
    static void lettersOfAFile() {
        PaperlessRegistry x = oneEnvelope();
        due(30, x.ofFile(0, 0));
        due(30, x.ofFile(0, 1));
        x.answer(29);
        due(30, x.ofFile(0, 0));
        due(0, x.ofFile(0, 1));
        PaperlessRegistry y = room(1, 2);
        due(1, y.ofFile(1, 0));
        due(1, y.ofFile(1, 1));
        y.teach(0, 0);
        y.join(0, 1);
        y.answer(0);
        due(2, y.ofFile(0, 0));
        due(1, y.ofFile(0, 1));
    }

    @Says(in = "Promise 14", value = "2 the earliest DEADLINE of those that are not (those in DOUBT have none; "
            + "NONE without one)")
    static void earliestDeadlineOfAFile() {
        PaperlessRegistry x = room(1, 2, 4, 8);
        x.join(0, 1);
        x.join(1, 2);
        x.join(2, 3);
        due(NONE, x.ofFile(0, 2));
        x.terms(0, 60, 0);
        x.terms(1, 1, 0);
        x.terms(2, 7, 0);
        // The earliest one first, in the middle, and last; letter 3 stays in doubt.
        x.teach(1, 0);
        due(60, x.ofFile(0, 2));
        x.teach(0, 2);
        due(7, x.ofFile(0, 2));
        x.teach(2, 1);
        due(1, x.ofFile(0, 2));
        x.answer(2);
        due(7, x.ofFile(0, 2));
        x.answer(0);
        due(60, x.ofFile(0, 2));
        // It may be past, and all others answered; then there is none that is not.
        onDay(199, x);
        due(60, x.ofFile(0, 2));
        x.answer(1);
        due(NONE, x.ofFile(0, 2));
        x.teach(3, 0);
        x.answer(3);
        due(NONE, x.ofFile(0, 2));
    }

    @Says(in = "Promise 14", value = "3 the DAY on which it was CLOSED (NONE, if it is not)")
    static void dayOnWhichAFileWasClosed() {
        PaperlessRegistry x = room(1, 2);
        x.teach(0, 0);
        x.teach(1, 0);
        due(NONE, x.ofFile(0, 3));
        x.answer(0);
        due(0, x.ofFile(0, 3));
        due(NONE, x.ofFile(1, 3));
        onDay(199, x).answer(1);
        due(199, x.ofFile(1, 3));
        due(0, x.ofFile(0, 3));
    }

    @Says(in = "Promise 14", value = "4 how many originals are not DESTROYED")
    static void originalsOfAFile() {
        // What waits is not destroyed.
        PaperlessRegistry x = oneEnvelope();
        due(30, x.ofFile(0, 4));
        x.terms(0, 1, 0);
        x.answer(0);
        x.day();
        due(0, x.ofFile(0, 4));
        PaperlessRegistry y = room(1, 2);
        y.terms(0, 1, 0);
        y.teach(0, 0);
        y.teach(1, 1);
        y.join(0, 1);
        y.answer(0);
        y.answer(1);
        y.day();
        due(1, y.ofFile(0, 4));
    }

    // ---- promises 15 and 16: onShelf, day

    @Says(in = "Promise 15", value = "Throws `IndexOutOfBoundsException` if there is no such SHELF")
    static void onShelfWithoutSuchAShelf() {
        due(8, full().onShelf(0));
        due(8, full().onShelf(2));
        // Those that wait, and those that were destroyed, are on none.
        refused(BOUNDS, Edges::full, x -> x.onShelf(3), x -> x.onShelf(-1), x -> x.onShelf(MAX),
                x -> x.onShelf(MIN));
    }

    @Says(in = "Promise 15", value = "Returns how many originals are on it.")
    static void emptyAndFullShelf() {
        PaperlessRegistry x = room(1);
        due(1, x.onShelf(0));
        due(0, x.onShelf(1));
        due(0, x.onShelf(2));
        scans(x, 0, 0, 8);
        due(8, x.onShelf(0));
        due(1, x.onShelf(1));
        x.teach(0, 0);
        x.terms(0, 1, 0);
        x.answer(0);
        x.day();
        for (int shelf = 0; shelf < 3; shelf++) {
            due(0, x.onShelf(shelf));
        }
    }

    @Says(in = "Promise 16", value = "Throws `IllegalStateException` if it is DAY 199")
    static void dayOnDay199() {
        Recipe lastDay = () -> {
            PaperlessRegistry x = room(1, 2);
            x.teach(0, 0);
            x.terms(0, 60, 0);
            onDay(199, x).answer(0);
            return x;
        };
        refused(STATE, lastDay, PaperlessRegistry::day);
        due(0, lastDay.make().ofLetter(0, 10));
        due(0, onDay(198, room(1)).day());
    }

    @Says(in = "Promise 16", value = "Returns how many originals are DESTROYED by that.")
    static void destroyedByADay() {
        due(0, room().day());
        PaperlessRegistry x = oneEnvelope();
        x.terms(0, 60, 1);
        onDay(198, x).answer(0);
        due(30, x.day());
        due(30, x.many(10));
        // Each is destroyed once.
        PaperlessRegistry y = room(1);
        y.teach(0, 0);
        y.terms(0, 1, 0);
        y.answer(0);
        due(1, y.day());
        due(0, y.day());
        due(1, y.many(10));
    }

    // ---- promise 17: sample

    @Says(in = "Promise 17", value = "Throws `IndexOutOfBoundsException` if there is no such place")
    static void sampleWithoutSuchAPlace() {
        due(0, full().sample(0));
        due(15, full().sample(15));
        refused(BOUNDS, Edges::full, x -> x.sample(16), x -> x.sample(-1), x -> x.sample(29), x -> x.sample(30),
                x -> x.sample(MAX), x -> x.sample(MIN));
        // All main letters are settled.
        refused(BOUNDS, Edges::oneEnvelope, x -> x.sample(0), x -> x.sample(-1));
    }

    // ---- promise 18: many

    @Says(in = "Promise 18", value = "Throws `IllegalArgumentException` if what is not 0 to 12")
    static void manyWithoutSuchAWhat() {
        due(5, some().many(0));
        due(1, some().many(12));
        refused(ARGUMENT, Edges::some, x -> x.many(13), x -> x.many(-1), x -> x.many(MAX), x -> x.many(MIN));
        refused(ARGUMENT, PaperlessRegistry::new, x -> x.many(13), x -> x.many(-1));
    }

    @Says(in = "Promise 18", value = "0 ENVELOPES, 1 LETTERS, 2 MAIN ones, 3 MAIN ones in DOUBT")
    static void manyInAFullRoom() {
        PaperlessRegistry x = full();
        int[] want = {16, 30, 16, 16, 0, 0, 0, 16, 0, 6, 0, 0, 0};
        for (int what = 0; what <= 12; what++) {
            due(want[what], x.many(what));
        }
        // An envelope without a letter has no main one.
        PaperlessRegistry y = room();
        y.envelope();
        due(1, y.many(0));
        due(0, y.many(2));
        due(0, y.many(3));
    }

    @Says(in = "Promise 18", value = "Returns that (4 to 6 of MAIN ones alone).")
    static void manyOfMainOnesAlone() {
        PaperlessRegistry x = oneEnvelope();
        due(1, x.many(4));
        due(0, x.many(5));
        x.terms(0, 1, 60);
        onDay(2, x);
        due(1, x.many(6));
        x.answer(29);
        due(1, x.many(4));
        due(1, x.many(5));
        due(0, x.many(6));
    }

    @Says(in = "Promise 18", value = "7 FILES, 8 those that are CLOSED, 9 originals that WAIT, "
            + "10 originals that were DESTROYED, 11 lessons, 12 the DAY")
    static void manyOfAllThatCanBe() {
        PaperlessRegistry x = full();
        lessons(x, 0, 0, 2);
        for (int n = 0; n < 16; n++) {
            x.answer(n);
        }
        x.terms(0, 1, 1);
        due(16, x.many(7));
        due(16, x.many(8));
        due(6, x.many(9));
        due(0, x.many(10));
        due(2, x.many(11));
        x.day();
        due(16, x.many(8));
        due(0, x.many(9));
        due(30, x.many(10));
        due(1, x.many(12));
    }

    // ---- promise 19: rightPart

    @Says(in = "Promise 19", value = "not cut; 0 without any.")
    static void rightPartFromNoneToAll() {
        PaperlessRegistry x = room(1, 2, 4, 8);
        due(0.0, x.rightPart());
        // Lessons, but neither right nor wrong ones.
        for (int n = 0; n < 4; n++) {
            x.teach(n, 0);
        }
        due(0.0, x.rightPart());
        x.teach(0, 0);
        due(1.0, x.rightPart());
        x.teach(1, 1);
        due(1.0 / 2.0, x.rightPart());
        x.teach(2, 3);
        due(1.0 / 3.0, x.rightPart());
        // Wrong ones alone.
        PaperlessRegistry y = room(1);
        y.teach(0, 0);
        y.teach(0, 1);
        due(0.0, y.rightPart());
        y.teach(0, 1);
        y.teach(0, 1);
        due(2.0 / 3.0, y.rightPart());
    }

    // ---- promise 20: classFor

    @Says(in = "Promise 20", value = "Throws `IllegalArgumentException` if words is not 0 to 4095")
    static void classForWithoutSuchWords() {
        due(NONE, some().classFor(0));
        due(2, some().classFor(1));
        due(NONE, some().classFor(4095));
        refused(ARGUMENT, Edges::some, x -> x.classFor(-1), x -> x.classFor(4096), x -> x.classFor(4097),
                x -> x.classFor(MAX), x -> x.classFor(MIN));
    }

    @Says(in = "Promise 20", value = "NONE: it would be in DOUBT.")
    static void classForAtTheBar() {
        PaperlessRegistry x = room(1, 2048);
        lessons(x, 0, 1, 3);
        x.teach(0, 2);
        lessons(x, 1, 3, 2);
        // Scores of word 0 are 0, 5, 2, 0; those of word 11 are 0, 0, 0, 4.
        due(1, x.classFor(1));
        due(3, x.classFor(2048));
        due(NONE, x.classFor(2049));
        due(NONE, x.classFor(0));
        x.bar(4);
        due(NONE, x.classFor(1));
        due(3, x.classFor(2048));
        x.bar(1);
        due(1, x.classFor(2049));
        due(1, x.classFor(4095));
        due(NONE, x.classFor(0));
        due(NONE, x.classFor(2046));
        // As one with these words then has, alone in its envelope.
        int[] sets = {0, 1, 2046, 2049, 4095};
        for (int set : sets) {
            due(x.classFor(set), x.ofLetter(x.scan(x.envelope(), set, NONE), 4));
        }
    }

    // ---- promise 21: changedBy

    @Says(in = "Promise 21", value = LETTER_OR_CLASS)
    static void changedByWithoutSuchALetter() {
        due(0, some().changedBy(5, 0));
        due(0, full().changedBy(29, 0));
        refused(BOUNDS, Edges::some, x -> x.changedBy(6, 0), x -> x.changedBy(-1, 0), x -> x.changedBy(29, 0),
                x -> x.changedBy(MAX, 0), x -> x.changedBy(MIN, 0));
        refused(BOUNDS, Edges::full, x -> x.changedBy(30, 0));
    }

    @Says(in = "Promise 21", value = LETTER_OR_CLASS)
    static void changedByWithoutSuchAClass() {
        due(1, some().changedBy(0, 0));
        due(1, some().changedBy(0, 3));
        refused(BOUNDS, Edges::some, x -> x.changedBy(0, 4), x -> x.changedBy(0, -1), x -> x.changedBy(5, MAX),
                x -> x.changedBy(5, MIN));
    }

    @Says(in = "Promise 21", value = "Returns what teach() would tell (also if it is ANSWERED).")
    static void changedByAsTaught() {
        Recipe taught = () -> {
            PaperlessRegistry x = full();
            x.teach(3, 1);
            return x;
        };
        for (int letter = 0; letter < 30; letter++) {
            for (int kind = 0; kind < 4; kind++) {
                PaperlessRegistry x = taught.make();
                int would = x.changedBy(letter, kind);
                due(kind != 1 ? 0 : letter == 3 ? 15 : 14, would);
                due(would, x.teach(letter, kind));
            }
        }
        // Answered, itself or over its main letter; teach() would throw.
        PaperlessRegistry x = taught.make();
        x.teach(15, 1);
        x.answer(15);
        due(14, x.changedBy(15, 3));
        due(14, x.changedBy(29, 3));
        thrown(STATE, x, y -> y.teach(29, 3));
        due(0, x.changedBy(29, 1));
    }

    // ---- promise 22: missedIn

    @Says(in = "Promise 22", value = "Throws `IllegalArgumentException` if days is not 0 to 60")
    static void missedInWithoutSuchDays() {
        due(0, some().missedIn(0));
        due(2, some().missedIn(60));
        refused(ARGUMENT, Edges::some, x -> x.missedIn(-1), x -> x.missedIn(61), x -> x.missedIn(MAX),
                x -> x.missedIn(MIN));
        refused(ARGUMENT, () -> onDay(199, room(1)), x -> x.missedIn(-1), x -> x.missedIn(61));
    }

    @Says(in = "Promise 22", value = "Returns how many MAIN LETTERS would be MISSED behind so many")
    static void missedInFrom0To60Days() {
        PaperlessRegistry x = room(1, 2, 4, 8);
        x.scan(0, 0, NONE);
        x.terms(0, 60, 0);
        x.teach(0, 0);
        x.teach(1, 0);
        x.answer(1);
        x.teach(2, 1);
        // Letter 1 is answered, and 3 in doubt: neither is missed ever.
        due(0, x.missedIn(0));
        due(0, x.missedIn(14));
        due(1, x.missedIn(15));
        due(1, x.missedIn(60));
        onDay(1, x);
        due(2, x.missedIn(60));
        due(1, x.missedIn(59));
        onDay(14, x);
        due(0, x.missedIn(0));
        due(1, x.missedIn(1));
        onDay(15, x);
        due(1, x.missedIn(0));
        due(1, x.many(6));
    }

    @Says(in = "Promise 22", value = "(also beyond 199)")
    static void missedInBeyondDay199() {
        PaperlessRegistry x = onDay(198, room());
        x.scan(x.envelope(), 1, NONE);
        x.teach(0, 0);
        x.terms(0, 1, 0);
        due(0, x.missedIn(1));
        due(1, x.missedIn(2));
        x.day();
        due(0, x.missedIn(0));
        due(1, x.missedIn(1));
        x.terms(0, 59, 0);
        due(0, x.missedIn(58));
        due(1, x.missedIn(59));
        x.terms(0, 60, 0);
        due(0, x.missedIn(59));
        due(1, x.missedIn(60));
    }

    // ---- promise 23: destroyedIn

    @Says(in = "Promise 23", value = "Throws `IllegalArgumentException` if days is not 1 to 60")
    static void destroyedInWithoutSuchDays() {
        due(0, some().destroyedIn(1));
        due(0, some().destroyedIn(60));
        refused(ARGUMENT, Edges::some, x -> x.destroyedIn(0), x -> x.destroyedIn(61), x -> x.destroyedIn(-1),
                x -> x.destroyedIn(MAX), x -> x.destroyedIn(MIN));
        refused(ARGUMENT, () -> onDay(199, room(1)), x -> x.destroyedIn(0), x -> x.destroyedIn(61));
    }

    private static final String DESTROYED_IN = "Returns how many originals would be DESTROYED in so many, "
            + "but not behind the DAY 199, if nothing else came.";

    @Says(in = "Promise 23", value = DESTROYED_IN)
    static void destroyedInFrom1To60Days() {
        // The day of the answer has begun already: a keep of 0 and one of 1 end on the same day.
        for (int keep = 0; keep <= 2; keep++) {
            PaperlessRegistry x = answeredOn(3, keep);
            due(keep < 2 ? 2 : 0, x.destroyedIn(1));
            due(2, x.destroyedIn(2));
            due(keep < 2 ? 2 : 0, x.day());
            due(keep < 2 ? 0 : 2, x.destroyedIn(1));
        }
        PaperlessRegistry y = answeredOn(3, 60);
        due(0, y.destroyedIn(59));
        due(2, y.destroyedIn(60));
        onDay(62, y);
        due(2, y.destroyedIn(1));
        due(2, y.day());
        due(0, y.destroyedIn(60));
    }

    @Says(in = "Promise 23", value = DESTROYED_IN)
    static void destroyedInOfWhatWaitsOrIsInDoubt() {
        PaperlessRegistry x = oneEnvelope();
        x.terms(0, 1, 5);
        due(0, x.destroyedIn(60));
        x.answer(0);
        due(0, x.destroyedIn(4));
        due(30, x.destroyedIn(5));
        PaperlessRegistry y = room(1, 1);
        y.terms(0, 1, 0);
        lessons(y, 0, 0, 2);
        y.answer(1);
        due(1, y.destroyedIn(1));
        y.bar(5);
        due(0, y.destroyedIn(60));
    }

    @Says(in = "Promise 23", value = DESTROYED_IN)
    static void destroyedInUpToDay199() {
        // The last day on which anything is destroyed is 199, however many days are asked for.
        PaperlessRegistry x = answeredOn(190, 9);
        due(0, x.destroyedIn(8));
        due(2, x.destroyedIn(9));
        due(2, x.destroyedIn(10));
        due(2, x.destroyedIn(60));
        PaperlessRegistry y = answeredOn(190, 10);
        due(0, y.destroyedIn(9));
        due(0, y.destroyedIn(10));
        due(0, y.destroyedIn(60));
        onDay(199, y);
        due(0, y.many(10));
        PaperlessRegistry z = answeredOn(198, 1);
        due(2, z.destroyedIn(1));
        due(2, z.destroyedIn(60));
        due(2, z.day());
        due(0, answeredOn(198, 2).destroyedIn(60));
    }

    @Says(in = "Promise 23", value = DESTROYED_IN)
    static void destroyedInOnDay199() {
        // Originals are destroyed as a day begins, and none begins any more: day() is refused.
        int[] keeps = {0, 1, 60};
        for (int keep : keeps) {
            PaperlessRegistry x = answeredOn(199, keep);
            due(0, x.destroyedIn(1));
            due(0, x.destroyedIn(60));
            thrown(STATE, x, PaperlessRegistry::day);
            due(0, x.many(10));
            due(0, x.ofLetter(0, 10));
        }
        // Closed long ago, and due by other terms, or out of doubt by another bar, on day 199 alone.
        PaperlessRegistry y = answeredOn(150, 60);
        onDay(199, y);
        y.terms(0, 60, 0);
        due(0, y.destroyedIn(1));
        due(0, y.destroyedIn(60));
        PaperlessRegistry z = room(1, 1);
        z.terms(0, 60, 0);
        lessons(z, 0, 0, 2);
        z.answer(1);
        z.bar(5);
        onDay(199, z);
        z.bar(4);
        due(0, z.ofLetter(1, 4));
        due(0, z.destroyedIn(1));
        due(0, z.destroyedIn(60));
        due(0, z.many(10));
    }

    // ---- promise 24: digest

    private static final BigInteger FACTOR = BigInteger.valueOf(31);

    /** The number without any wrap-around; each part from a room of its own, within 512 calls. */
    private static BigInteger wholeNumber(Recipe recipe) {
        List<Integer> all = new ArrayList<>();
        PaperlessRegistry x = recipe.make();
        for (int what = 0; what <= 12; what++) {
            all.add(x.many(what));
        }
        int letters = x.many(1);
        int places = x.many(2) - x.many(4);
        for (int n = 0; n < letters; n++) {
            PaperlessRegistry y = recipe.make();
            for (int what = 0; what <= 10; what++) {
                all.add(y.ofLetter(n, what));
            }
            for (int kind = 0; kind < 4; kind++) {
                all.add(y.score(n, kind));
            }
            all.add(y.confidence(n));
        }
        for (int kind = 0; kind < 4; kind++) {
            for (int what = 0; what <= 6; what++) {
                all.add(x.ofClass(kind, what));
            }
        }
        PaperlessRegistry z = recipe.make();
        for (int n = 0; n < letters; n++) {
            for (int what = 0; what <= 4 && z.ofLetter(n, 9) == n; what++) {
                all.add(z.ofFile(n, what));
            }
        }
        for (int shelf = 0; shelf < 3; shelf++) {
            all.add(x.onShelf(shelf));
        }
        for (int place = 0; place < places; place++) {
            all.add(x.sample(place));
        }
        all.add(x.missedIn(10));
        all.add(x.destroyedIn(20));
        return folded(all);
    }

    private static BigInteger folded(List<Integer> all) {
        BigInteger d = BigInteger.valueOf(58122);
        for (int v : all) {
            d = d.multiply(FACTOR).add(BigInteger.valueOf(v));
        }
        return d;
    }

    private static void dueDigest(BigInteger want, PaperlessRegistry x) {
        due(1, want.longValue() == x.digest() ? 1 : 0);
        due(1, want.longValue() == x.digest() ? 1 : 0);
    }

    @Says(in = "Promise 24", value = "A number d starts with 58122; for each of the following numbers v, "
            + "d becomes d * 31 + v")
    static void digestOfANewRoom() {
        List<Integer> all = new ArrayList<>();
        for (int what = 0; what <= 12; what++) {
            all.add(0);
        }
        for (int kind = 0; kind < 4; kind++) {
            all.addAll(List.of(14, 10, 0, 0, 0, 0, 0));
        }
        all.addAll(List.of(0, 0, 0, 0, 0));
        dueDigest(folded(all), new PaperlessRegistry());
        dueDigest(wholeNumber(PaperlessRegistry::new), new PaperlessRegistry());
    }

    @Says(in = "Promise 24", value = "which wraps around as a 64-bit integer")
    static void digestWrapsAround() {
        Recipe[] recipes = {Edges::some, Edges::full, Edges::oneEnvelope, TermsEdges::threeGroups,
            () -> onDay(199, room(1, 2))};
        for (Recipe recipe : recipes) {
            BigInteger whole = wholeNumber(recipe);
            due(1, whole.bitLength() > 64 ? 1 : 0);
            dueDigest(whole, recipe.make());
        }
    }

    @Says(in = "Promise 24", value = "LETTER by LETTER ofLetter() of 0 to 10, score() for the CLASSES 0 to 3, "
            + "confidence(); CLASS by CLASS ofClass() of 0 to 6")
    static void digestLetterByLetter() {
        // One letter in doubt, whose class, deadline and file's day are NONE, which counts as -1.
        List<Integer> all = new ArrayList<>(List.of(1, 1, 1, 1, 0, 0, 0, 1, 0, 0, 0, 0));
        all.add(0);
        all.addAll(List.of(0, 5, 0, 0, NONE, NONE, 0, 0, 0, 0));
        all.addAll(List.of(0, 0, 0, 0, 0, 0));
        for (int kind = 0; kind < 4; kind++) {
            all.addAll(List.of(14, 10, 0, 0, 0, 0, 0));
        }
        all.addAll(List.of(1, 1, NONE, NONE, 1));
        all.addAll(List.of(1, 0, 0, 0, 0, 0));
        dueDigest(folded(all), room(5));
    }

    @Says(in = "Promise 24", value = "FILE by FILE, the smallest number first, ofFile() of 0 to 4")
    static void digestFileByFile() {
        Recipe files = () -> {
            PaperlessRegistry x = room(1, 2, 4, 8, 16);
            x.join(4, 1);
            x.join(3, 2);
            x.teach(3, 0);
            x.answer(3);
            return x;
        };
        due(3, files.make().many(7));
        dueDigest(wholeNumber(files), files.make());
    }

    @Says(in = "Promise 24", value = "each sample(), place by place")
    static void digestOfTheSample() {
        dueDigest(wholeNumber(TermsEdges::threeGroups), TermsEdges.threeGroups());
        // Without any place: all main letters are settled.
        thrown(BOUNDS, oneEnvelope(), x -> x.sample(0));
        dueDigest(wholeNumber(Edges::oneEnvelope), oneEnvelope());
    }

    @Says(in = "Promise 24", value = "missedIn() of 10, destroyedIn() of 20.")
    static void digestOf10And20Days() {
        for (int limit = 8; limit <= 11; limit++) {
            int days = limit;
            Recipe near = () -> {
                PaperlessRegistry x = room(1, 2);
                x.terms(0, days, days + 10);
                x.teach(0, 0);
                x.teach(1, 0);
                x.answer(0);
                return x;
            };
            due(limit < 10 ? 1 : 0, near.make().missedIn(10));
            due(limit <= 10 ? 1 : 0, near.make().destroyedIn(20));
            dueDigest(wholeNumber(near), near.make());
        }
    }
}
