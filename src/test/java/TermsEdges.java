/** The boundary cases of the document's "Terms", 1 to 6, and of what it says of all calls. */
final class TermsEdges extends Edges {
    // ---- the calls of one object, its days, and NONE

    @Says(in = "What it is", value = "An object is used for at most 512 calls after it has been made")
    static void last512thCall() {
        PaperlessRegistry x = room(1);
        lessons(x, 0, 2, 507);
        due(507, x.many(11));
        due(506, x.ofClass(2, 5));
        due(1.0, x.rightPart());
    }

    @Says(in = "Terms", value = "NONE is -1.")
    static void noneIsMinusOne() {
        PaperlessRegistry x = new PaperlessRegistry();
        x.envelope();
        due(0, x.scan(0, 0, -1));
        due(-1, x.ofLetter(0, 4));
        due(-1, x.ofLetter(0, 5));
        due(-1, x.ofFile(0, 2));
        due(-1, x.ofFile(0, 3));
        due(-1, x.classFor(0));
        thrown(BOUNDS, x, y -> y.scan(0, 0, -2));
    }

    @Says(in = "Terms", value = "The DAY is 0 at first, and 199 at most.")
    static void daysFrom0To199() {
        PaperlessRegistry x = room(1);
        due(0, x.many(12));
        due(0, x.ofLetter(0, 2));
        onDay(198, x);
        due(198, x.many(12));
        due(0, x.day());
        due(199, x.many(12));
        thrown(STATE, x, PaperlessRegistry::day);
        due(199, x.many(12));
    }

    // ---- Terms, 1: letters

    @Says(in = "Terms", value = "LETTERS: at most 30, numbered from 0 as they are scanned")
    static void thirtyLetters() {
        PaperlessRegistry x = room();
        x.envelope();
        x.envelope();
        for (int n = 0; n < 30; n++) {
            due(n, x.many(1));
            due(n, x.scan((n + 1) % 2, n, NONE));
        }
        thrown(STATE, x, y -> y.scan(0, 0, NONE));
        due(30, x.many(1));
        due(29, x.ofLetter(29, 1));
        thrown(BOUNDS, x, y -> y.ofLetter(30, 1));
    }

    @Says(in = "Terms", value = "each with a set of WORDS, 0 to 11 (told as the sum of 2^w for each w in it)")
    static void wordsFromNoneToAll() {
        int[] sets = {0, 1, 2048, 4095};
        for (int set : sets) {
            PaperlessRegistry x = room(set);
            due(set, x.ofLetter(0, 1));
            x.teach(0, 3);
            for (int word = 0; word < 12; word++) {
                due(set / (1 << word) % 2 == 1 ? 2 : 0, x.weight(word, 3));
            }
        }
    }

    @Says(in = "Terms", value = "the DAY on which it came: that on which it is scanned")
    static void comesOnTheDayOfItsScan() {
        PaperlessRegistry x = room();
        x.envelope();
        x.envelope();
        onDay(1, x).scan(0, 0, NONE);
        due(1, x.ofLetter(0, 2));
        onDay(199, x).scan(1, 0, NONE);
        due(199, x.ofLetter(1, 2));
        due(1, x.ofLetter(0, 2));
    }

    @Says(in = "Terms", value = "The first one that is scanned of an ENVELOPE is its MAIN one; "
            + "all others are ENCLOSURES")
    static void firstScannedIsMain() {
        PaperlessRegistry x = room();
        x.envelope();
        x.envelope();
        for (int n = 0; n < 6; n++) {
            x.scan((n + 1) % 2, 0, NONE);
        }
        for (int n = 0; n < 6; n++) {
            due(n % 2, x.ofLetter(n, 3));
            due((n + 1) % 2, x.ofLetter(n, 0));
        }
        due(2, x.many(2));
    }

    @Says(in = "Terms", value = "their CLASS, their DEADLINE, and whether they are SETTLED, ANSWERED, or in DOUBT, "
            + "are those of the MAIN one.")
    static void enclosuresGoWithTheirMain() {
        PaperlessRegistry x = room(1);
        x.scan(0, 2, NONE);
        for (int n = 0; n < 2; n++) {
            due(NONE, x.ofLetter(n, 4));
            due(NONE, x.ofLetter(n, 5));
            due(0, x.ofLetter(n, 6));
            due(0, x.ofLetter(n, 7));
        }
        x.teach(1, 3);
        x.answer(1);
        for (int n = 0; n < 2; n++) {
            due(3, x.ofLetter(n, 4));
            due(14, x.ofLetter(n, 5));
            due(1, x.ofLetter(n, 6));
            due(1, x.ofLetter(n, 7));
        }
    }

    @Says(in = "Terms", value = "At most 16 ENVELOPES, numbered from 0.")
    static void sixteenEnvelopes() {
        PaperlessRegistry x = room();
        for (int n = 0; n < 16; n++) {
            due(n, x.many(0));
            due(n, x.envelope());
        }
        thrown(STATE, x, PaperlessRegistry::envelope);
        due(16, x.many(0));
        due(0, x.scan(15, 0, NONE));
        due(15, x.ofLetter(0, 0));
        thrown(BOUNDS, x, y -> y.scan(16, 0, NONE));
    }

    // ---- Terms, 2: classes and lessons

    @Says(in = "Terms", value = "CLASSES are 0 to 3, each with a LIMIT, 1 to 60 (14 at first), "
            + "and a KEEP, 0 to 60 (10 at first), both DAYS.")
    static void fourClasses() {
        PaperlessRegistry x = room(1);
        for (int kind = 0; kind < 4; kind++) {
            due(14, x.ofClass(kind, 0));
            due(10, x.ofClass(kind, 1));
            due(14, x.terms(kind, 1, 0));
            due(1, x.terms(kind, 60, 60));
            due(60, x.ofClass(kind, 0));
            due(60, x.ofClass(kind, 1));
            x.teach(0, kind);
            due(kind, x.ofLetter(0, 4));
        }
        thrown(BOUNDS, x, y -> y.ofClass(4, 0));
        thrown(BOUNDS, x, y -> y.ofClass(-1, 0));
    }

    @Says(in = "Terms", value = "For each WORD and CLASS there is a WEIGHT, 0 to 20 (0 at first).")
    static void weightsFrom0To20() {
        PaperlessRegistry x = room(4095);
        for (int word = 0; word < 12; word++) {
            for (int kind = 0; kind < 4; kind++) {
                due(0, x.weight(word, kind));
            }
        }
        lessons(x, 0, 1, 11);
        for (int word = 0; word < 12; word++) {
            for (int kind = 0; kind < 4; kind++) {
                due(kind == 1 ? 20 : 0, x.weight(word, kind));
            }
        }
    }

    @Says(in = "Terms", value = "The SCORE of a MAIN LETTER for a CLASS: the WEIGHTS of all WORDS of it "
            + "and its ENCLOSURES, each WORD once.")
    static void eachWordOnceInAScore() {
        PaperlessRegistry x = room(4095, 0, 3);
        lessons(x, 0, 3, 10);
        due(240, x.score(0, 3));
        due(0, x.score(1, 3));
        due(40, x.score(2, 3));
        // One word that is new, one that is shared; then none that is new.
        x.scan(2, 6, NONE);
        due(60, x.score(2, 3));
        due(60, x.score(3, 3));
        x.scan(2, 7, NONE);
        due(60, x.score(2, 3));
        // The enclosures alone have words.
        x.scan(1, 2048, NONE);
        x.scan(1, 2048, NONE);
        due(20, x.score(1, 3));
        due(0, x.score(1, 2));
    }

    @Says(in = "Terms", value = "Its CONFIDENCE: the greatest SCORE less the next one (0, if two have the greatest).")
    static void confidenceOfTheTwoGreatest() {
        PaperlessRegistry x = room(1, 2, 4, 8);
        lessons(x, 0, 0, 3);
        lessons(x, 1, 1, 2);
        lessons(x, 2, 2, 2);
        lessons(x, 3, 3, 3);
        // Scores by class are 6, 4, 4, 6 of the words 0 to 3.
        int[] sets = {3, 10, 9, 6, 15, 7, 14, 1, 8, 0, 16};
        int[] want = {2, 2, 0, 0, 0, 2, 2, 6, 6, 0, 0};
        for (int n = 0; n < sets.length; n++) {
            int letter = x.scan(x.envelope(), sets[n], NONE);
            due(want[n], x.confidence(letter));
        }
    }

    @Says(in = "Terms", value = "it has the CLASS that was told, for good, or till another lesson.")
    static void settledTillAnotherLesson() {
        PaperlessRegistry x = room(1, 1);
        x.teach(0, 0);
        // The weights say otherwise as clearly as they can, then the bar.
        lessons(x, 1, 1, 10);
        due(0, x.ofLetter(0, 4));
        x.bar(20);
        due(0, x.ofLetter(0, 4));
        due(1, x.ofLetter(0, 6));
        x.teach(0, 2);
        due(2, x.ofLetter(0, 4));
        due(1, x.ofLetter(0, 6));
        x.answer(0);
        x.teach(1, 3);
        due(2, x.ofLetter(0, 4));
    }

    @Says(in = "Terms", value = "All others have the CLASS with the greatest SCORE, if their CONFIDENCE is BAR or more "
            + "(BAR is 1 to 20; 3 at first), otherwise none: they are in DOUBT.")
    static void classFromTheBarOn() {
        PaperlessRegistry x = room(1, 1, 2, 2);
        lessons(x, 0, 1, 3);
        x.teach(0, 2);
        x.teach(2, 3);
        due(3, x.confidence(1));
        due(1, x.ofLetter(1, 4));
        due(2, x.confidence(3));
        due(NONE, x.ofLetter(3, 4));
        due(1, x.many(3));
        due(3, x.bar(4));
        due(NONE, x.ofLetter(1, 4));
        due(2, x.many(3));
        due(4, x.bar(2));
        due(3, x.ofLetter(3, 4));
        due(0, x.many(3));
        // As soon as it is scanned; and an enclosure can bring its words to the bar.
        due(4, x.scan(x.envelope(), 16, NONE));
        due(NONE, x.ofLetter(4, 4));
        x.scan(4, 2, NONE);
        due(3, x.ofLetter(4, 4));
    }

    @Says(in = "Terms", value = "(BAR is 1 to 20; 3 at first)")
    static void barOf1AndOf20() {
        PaperlessRegistry x = room(1, 2, 3, 1, 0, 4, 4);
        lessons(x, 0, 0, 9);
        x.teach(1, 1);
        x.teach(1, 0);
        due(3, x.bar(20));
        due(19, x.confidence(2));
        due(NONE, x.ofLetter(2, 4));
        x.teach(0, 0);
        due(20, x.confidence(3));
        due(0, x.ofLetter(3, 4));
        due(20, x.bar(1));
        lessons(x, 5, 1, 2);
        x.teach(5, 2);
        due(1, x.confidence(6));
        due(1, x.ofLetter(6, 4));
        due(0, x.confidence(4));
        due(NONE, x.ofLetter(4, 4));
        due(1, x.bar(2));
        due(NONE, x.ofLetter(6, 4));
    }

    @Says(in = "Terms", value = "(All that is as WEIGHTS and BAR are now, ANSWERED or not.)")
    static void classAsNowThoughAnswered() {
        PaperlessRegistry x = room(1, 1, 1);
        lessons(x, 0, 0, 2);
        x.answer(1);
        for (int n = 1; n < 3; n++) {
            due(0, x.ofLetter(n, 4));
        }
        x.bar(5);
        for (int n = 1; n < 3; n++) {
            due(NONE, x.ofLetter(n, 4));
        }
        x.bar(4);
        for (int n = 1; n < 3; n++) {
            due(0, x.ofLetter(n, 4));
        }
        x.teach(0, 0);
        x.bar(5);
        for (int n = 1; n < 3; n++) {
            due(0, x.ofLetter(n, 4));
        }
        x.teach(0, 1);
        for (int n = 1; n < 3; n++) {
            due(NONE, x.ofLetter(n, 4));
        }
    }

    @Says(in = "Terms", value = "the WEIGHT for that CLASS is 2 more (20 at most), "
            + "and that for each other one 1 less (not below 0).")
    static void lessonsUpTo20AndDownTo0() {
        PaperlessRegistry x = room(1);
        lessons(x, 0, 2, 9);
        due(18, x.weight(0, 2));
        x.teach(0, 2);
        due(20, x.weight(0, 2));
        x.teach(0, 2);
        due(20, x.weight(0, 2));
        due(0, x.weight(0, 1));
        x.teach(0, 1);
        due(19, x.weight(0, 2));
        due(2, x.weight(0, 1));
        due(0, x.weight(0, 0));
        x.teach(0, 2);
        due(20, x.weight(0, 2));
        due(1, x.weight(0, 1));
        x.teach(0, 2);
        due(0, x.weight(0, 1));
        x.teach(0, 2);
        due(0, x.weight(0, 1));
        due(0, x.weight(0, 3));
        due(0, x.weight(1, 2));
    }

    @Says(in = "Terms", value = "for each WORD of it and its ENCLOSURES, each WORD once")
    static void eachWordOnceInALesson() {
        PaperlessRegistry x = room(3);
        x.scan(0, 6, NONE);
        x.teach(1, 0);
        due(2, x.weight(0, 0));
        due(2, x.weight(1, 0));
        due(2, x.weight(2, 0));
        due(0, x.weight(3, 0));
    }

    @Says(in = "Terms", value = "A lesson for a CLASS about a MAIN LETTER SETTLES it")
    static void lessonWithoutWords() {
        PaperlessRegistry x = room(0, 0);
        due(0, x.teach(0, 1));
        due(1, x.ofLetter(0, 6));
        due(1, x.ofLetter(0, 4));
        due(0, x.ofLetter(1, 6));
        due(1, x.many(11));
        for (int word = 0; word < 12; word++) {
            due(0, x.weight(word, 1));
        }
    }

    @Says(in = "Terms", value = "It was RIGHT, if the LETTER had that CLASS ahead of it, "
            + "and WRONG, if it had another one; neither, if it was in DOUBT.")
    static void rightWrongOrNeither() {
        PaperlessRegistry x = room(1, 1, 1, 1);
        // In doubt: without any score, then with too small a confidence for the class that is told.
        x.teach(0, 0);
        x.teach(1, 0);
        due(2, x.ofClass(0, 4));
        due(0, x.ofClass(0, 5));
        due(0, x.ofClass(0, 6));
        // By its words, then by a lesson; it counts for the class that is told.
        x.teach(2, 0);
        due(1, x.ofClass(0, 5));
        x.teach(2, 1);
        due(1, x.ofClass(1, 6));
        due(0, x.ofClass(0, 6));
        x.teach(2, 1);
        due(1, x.ofClass(1, 5));
        due(1, x.ofClass(0, 5));
        // In doubt again by the bar.
        x.bar(20);
        x.teach(3, 0);
        due(4, x.ofClass(0, 4));
        due(1, x.ofClass(0, 5));
        due(0, x.ofClass(0, 6));
    }

    // ---- Terms, 3: files

    @Says(in = "Terms", value = "if they are of one ENVELOPE")
    static void fileOfOneEnvelope() {
        PaperlessRegistry x = room(0, 0);
        due(1, x.ofFile(0, 0));
        due(1, x.ofFile(1, 0));
        x.scan(0, 0, NONE);
        due(0, x.ofLetter(2, 9));
        due(2, x.ofFile(0, 0));
        due(1, x.ofFile(1, 0));
        due(2, x.many(7));
    }

    @Says(in = "Terms", value = "or one has the other one as its REFERENCE")
    static void fileByReference() {
        PaperlessRegistry x = room(0, 0);
        x.envelope();
        x.envelope();
        x.scan(2, 0, 1);
        due(1, x.ofLetter(2, 9));
        due(0, x.ofLetter(0, 9));
        // The first letter is one to which a letter can refer, and so is one of its own envelope.
        x.scan(3, 0, 0);
        due(0, x.ofLetter(3, 9));
        x.scan(3, 0, 3);
        due(0, x.ofLetter(4, 9));
        due(3, x.ofFile(0, 0));
        due(2, x.ofFile(1, 0));
    }

    @Says(in = "Terms", value = "or they were JOINED by hand")
    static void fileByHand() {
        PaperlessRegistry x = room(0, 0, 0);
        x.join(2, 1);
        due(1, x.ofLetter(2, 9));
        due(1, x.ofLetter(1, 9));
        due(0, x.ofLetter(0, 9));
        due(2, x.many(7));
    }

    @Says(in = "Terms", value = "or over others in such ways.")
    static void fileOverOthers() {
        PaperlessRegistry x = room(0, 0, 0, 0);
        x.scan(1, 0, NONE);
        x.scan(3, 0, 4);
        // 0 - 2 by hand, 2 - 5 by hand, 5 - 4 by reference, 3 and 1 by their envelopes.
        x.join(0, 2);
        due(1, x.ofLetter(3, 9));
        due(6, x.join(2, 5));
        for (int n = 0; n < 6; n++) {
            due(0, x.ofLetter(n, 9));
        }
        due(1, x.many(7));
    }

    @Says(in = "Terms", value = "The number of a FILE is the smallest one of its LETTERS.")
    static void smallestNumberOfAFile() {
        PaperlessRegistry x = room(0, 0, 0, 0, 0);
        due(4, x.ofLetter(4, 9));
        x.join(4, 3);
        due(3, x.ofLetter(4, 9));
        x.join(2, 4);
        due(2, x.ofLetter(3, 9));
        x.join(1, 0);
        due(0, x.ofLetter(1, 9));
        x.join(3, 1);
        for (int n = 0; n < 5; n++) {
            due(0, x.ofLetter(n, 9));
        }
    }

    // ---- Terms, 4: deadlines, and what is closed

    @Says(in = "Terms", value = "The DEADLINE of a LETTER is the DAY on which its MAIN one came, "
            + "and the LIMIT of its CLASS, as they are now; NONE in DOUBT.")
    static void deadlineAsNow() {
        PaperlessRegistry x = room(1, 1);
        due(NONE, x.ofLetter(0, 5));
        x.terms(0, 1, 0);
        x.teach(0, 0);
        due(1, x.ofLetter(0, 5));
        due(NONE, x.ofLetter(1, 5));
        x.terms(0, 60, 0);
        due(60, x.ofLetter(0, 5));
        x.teach(0, 1);
        due(14, x.ofLetter(0, 5));
        x.answer(0);
        x.terms(1, 2, 0);
        due(2, x.ofLetter(0, 5));
        // Beyond the last day.
        PaperlessRegistry late = onDay(199, room());
        late.scan(late.envelope(), 1, NONE);
        late.teach(0, 0);
        late.terms(0, 60, 0);
        due(259, late.ofLetter(0, 5));
    }

    @Says(in = "Terms", value = "A LETTER that is not ANSWERED is MISSED, if its DEADLINE is a DAY ahead of today.")
    static void missedTheDayBehindItsDeadline() {
        PaperlessRegistry x = room(1, 2, 4);
        x.terms(0, 3, 0);
        x.teach(0, 0);
        x.teach(1, 0);
        x.answer(1);
        onDay(2, x);
        due(0, x.ofLetter(0, 8));
        x.day();
        due(0, x.ofLetter(0, 8));
        x.day();
        due(1, x.ofLetter(0, 8));
        due(0, x.ofLetter(1, 8));
        due(1, x.many(6));
        x.answer(0);
        due(0, x.ofLetter(0, 8));
        // In doubt there is no deadline that could be ahead of today.
        onDay(199, x);
        due(0, x.ofLetter(2, 8));
        due(0, x.many(6));
    }

    @Says(in = "Terms", value = "A FILE is CLOSED, if all its LETTERS are ANSWERED")
    static void closedWithTheLastAnswer() {
        PaperlessRegistry x = room(1, 2, 4);
        x.teach(0, 0);
        x.teach(1, 0);
        x.teach(2, 0);
        x.join(0, 1);
        x.join(1, 2);
        due(0, x.many(8));
        x.answer(0);
        x.answer(2);
        due(NONE, x.ofFile(0, 3));
        due(0, x.many(8));
        x.answer(1);
        due(0, x.ofFile(0, 3));
        due(1, x.many(8));
    }

    @Says(in = "Terms", value = "the DAY on which it was is the greatest one on which one of them was ANSWERED")
    static void closedOnTheGreatestDay() {
        PaperlessRegistry x = room(1, 2, 4, 8);
        for (int n = 0; n < 4; n++) {
            x.teach(n, 0);
        }
        x.join(0, 1);
        onDay(1, x).answer(1);
        onDay(2, x).answer(2);
        onDay(3, x).answer(0);
        due(3, x.ofFile(0, 3));
        due(2, x.ofFile(2, 3));
        // Two that are closed are one then; the day on which they were joined closes nothing.
        onDay(5, x).join(2, 0);
        due(3, x.ofFile(0, 3));
        onDay(199, x).answer(3);
        due(199, x.ofFile(3, 3));
        x.join(3, 2);
        due(199, x.ofFile(0, 3));
    }

    @Says(in = "Terms", value = "(so nothing is CLOSED any more to which a new LETTER comes)")
    static void openedByANewLetter() {
        PaperlessRegistry x = room(1);
        x.terms(0, 5, 1);
        x.teach(0, 0);
        x.answer(0);
        due(1, x.many(8));
        x.scan(x.envelope(), 2, 0);
        due(NONE, x.ofFile(0, 3));
        due(0, x.many(8));
        due(0, x.day());
        due(0, x.day());
        x.teach(1, 0);
        x.answer(1);
        due(2, x.ofFile(0, 3));
        due(2, x.day());
    }

    // ---- Terms, 5: shelves

    @Says(in = "Terms", value = "SHELVES are 0 to 2, each with PLACES for 8.")
    static void eightPlacesOnEachShelf() {
        PaperlessRegistry x = room(0);
        for (int n = 1; n < 30; n++) {
            due(Math.min(n, 8), x.onShelf(0));
            due(Math.max(0, Math.min(n - 8, 8)), x.onShelf(1));
            due(Math.max(0, Math.min(n - 16, 8)), x.onShelf(2));
            due(Math.max(0, n - 24), x.many(9));
            x.scan(0, 0, NONE);
        }
        due(8, x.onShelf(2));
        due(6, x.many(9));
    }

    @Says(in = "Terms", value = "The original of a LETTER is put, as it is scanned, on the first SHELF with a PLACE; "
            + "without any it WAITS.")
    static void firstShelfWithAPlace() {
        PaperlessRegistry x = room(1);
        scans(x, 0, 0, 8);
        x.envelope();
        scans(x, 1, 2, 16);
        int[] at = {0, 7, 8, 15, 16, 23, 24};
        int[] want = {0, 0, 1, 1, 2, 2, 3};
        for (int n = 0; n < at.length; n++) {
            due(want[n], x.ofLetter(at[n], 10));
        }
        // Nine places are free: all of shelf 0, of which one is for what waits, and one of shelf 1.
        x.terms(0, 5, 0);
        x.teach(0, 0);
        x.answer(0);
        due(9, x.day());
        x.envelope();
        for (int n = 25; n < 30; n++) {
            due(n, x.scan(2, 0, NONE));
            due(0, x.ofLetter(n, 10));
        }
        due(6, x.onShelf(0));
        due(7, x.onShelf(1));
    }

    @Says(in = "Terms", value = "this DAY is the one on which that was CLOSED, and KEEP of its CLASS, or behind that.")
    static void destroyedOnTheDayItself() {
        int[] keeps = {0, 1, 2, 60};
        for (int keep : keeps) {
            PaperlessRegistry x = room(1);
            x.terms(0, 1, keep);
            x.teach(0, 0);
            onDay(2, x).answer(0);
            due(0, x.ofLetter(0, 10));
            // The day of the answer has begun already: a keep of 0 waits for the next one.
            int due = 2 + Math.max(keep, 1);
            onDay(due - 1, x);
            due(0, x.many(10));
            due(1, x.day());
            due(NONE, x.ofLetter(0, 10));
            due(0, x.day());
        }
    }

    @Says(in = "Terms", value = "this DAY is the one on which that was CLOSED, and KEEP of its CLASS, or behind that.")
    static void destroyedBehindTheDay() {
        PaperlessRegistry x = room(1);
        x.terms(0, 1, 60);
        x.teach(0, 0);
        x.answer(0);
        onDay(9, x);
        x.terms(0, 1, 1);
        due(0, x.ofLetter(0, 10));
        due(1, x.day());
    }

    @Says(in = "Terms", value = "and KEEP of its CLASS")
    static void keptAsItsOwnClass() {
        PaperlessRegistry x = room(1, 2);
        x.terms(0, 5, 3);
        x.terms(1, 5, 1);
        x.teach(0, 0);
        x.teach(1, 1);
        x.join(0, 1);
        x.answer(0);
        x.answer(1);
        due(1, x.day());
        due(NONE, x.ofLetter(1, 10));
        due(0, x.day());
        due(1, x.day());
        due(NONE, x.ofLetter(0, 10));
    }

    @Says(in = "Terms", value = "it is DESTROYED, if its FILE is CLOSED")
    static void keptInAnOpenFile() {
        PaperlessRegistry x = room(1, 2);
        x.terms(0, 5, 2);
        x.teach(0, 0);
        x.teach(1, 0);
        x.join(0, 1);
        x.answer(0);
        onDay(5, x);
        due(0, x.many(10));
        x.answer(1);
        due(0, x.day());
        due(2, x.day());
    }

    @Says(in = "Terms", value = "it is not in DOUBT")
    static void keptInDoubt() {
        PaperlessRegistry x = room(1, 1);
        x.terms(0, 5, 0);
        lessons(x, 0, 0, 2);
        x.answer(0);
        x.answer(1);
        x.bar(5);
        // The settled one is not in doubt, whatever the bar is.
        due(1, x.day());
        due(0, x.day());
        due(0, x.ofLetter(1, 10));
        x.bar(4);
        due(1, x.day());
    }

    @Says(in = "Terms", value = "Then, LETTER by LETTER, those that WAIT are put, as above, "
            + "as long as there is a PLACE.")
    static void waitingOnesArePutInTurn() {
        PaperlessRegistry x = room(1, 2);
        scans(x, 1, 0, 8);
        x.envelope();
        x.scan(2, 4, NONE);
        scans(x, 2, 0, 19);
        due(6, x.many(9));
        // One place on shelf 0, and three on shelf 2: those behind letter 27 wait on.
        x.terms(0, 5, 0);
        x.teach(0, 0);
        x.answer(0);
        due(1, x.day());
        due(0, x.ofLetter(24, 10));
        for (int n = 25; n < 30; n++) {
            due(3, x.ofLetter(n, 10));
        }
        due(8, x.onShelf(0));
        x.teach(1, 0);
        x.answer(1);
        due(9, x.day());
        due(0, x.many(9));
        due(0, x.ofLetter(25, 10));
        due(0, x.ofLetter(29, 10));
        due(6, x.onShelf(0));
        due(6, x.onShelf(1));
        due(8, x.onShelf(2));
    }

    @Says(in = "Terms", value = "as long as there is a PLACE.")
    static void noPlaceNoMoreIsPut() {
        PaperlessRegistry x = room(1, 2);
        scans(x, 0, 0, 3);
        scans(x, 1, 0, 25);
        due(6, x.many(9));
        due(0, x.day());
        due(6, x.many(9));
        x.terms(0, 5, 0);
        x.teach(0, 0);
        x.answer(0);
        due(4, x.day());
        due(2, x.many(9));
        for (int n = 24; n < 30; n++) {
            due(n < 28 ? 0 : 3, x.ofLetter(n, 10));
        }
        due(0, x.day());
        due(2, x.many(9));
    }

    @Says(in = "Terms", value = "One that WAITS can be DESTROYED, too.")
    static void destroyedWhileItWaits() {
        PaperlessRegistry x = room(1);
        scans(x, 0, 0, 23);
        x.envelope();
        x.scan(1, 2, NONE);
        scans(x, 1, 0, 5);
        x.terms(0, 5, 0);
        x.teach(24, 0);
        x.answer(24);
        due(6, x.many(9));
        due(6, x.destroyedIn(1));
        due(6, x.day());
        due(0, x.many(9));
        due(6, x.many(10));
        due(NONE, x.ofLetter(29, 10));
        due(8, x.onShelf(0));
        due(8, x.onShelf(2));
    }

    // ---- Terms, 6: the sample

    /**
     * On day 2: class 0 (words 0 alone, or with 2) is missed, class 1 (word 1) is not, word 2 alone
     * and both words 0 and 1 leave doubt. Letters 0 to 2 are settled; 7 and 8 are answered.
     */
    static PaperlessRegistry threeGroups() {
        PaperlessRegistry x = room(1, 2, 4, 2, 1, 4, 8, 1, 3, 5, 1, 2, 0, 3);
        lessons(x, 0, 0, 3);
        lessons(x, 1, 1, 2);
        x.teach(2, 2);
        x.terms(0, 1, 60);
        x.answer(7);
        x.bar(2);
        x.answer(8);
        x.bar(3);
        return onDay(2, x);
    }

    @Says(in = "Terms", value = "those that are MISSED first, then those in DOUBT, then all others; "
            + "of several by CONFIDENCE, the smallest first; then by number.")
    static void missedThenDoubtThenOthers() {
        PaperlessRegistry x = threeGroups();
        due(0, x.ofLetter(7, 8));
        due(NONE, x.ofLetter(8, 4));
        // Missed: 9 (4), 4 and 10 (6). Doubt: 6 and 12 (0), 5, 8 and 13 (2). Others: 3 and 11 (4), 7 (6).
        int[] want = {9, 4, 10, 6, 12, 5, 8, 13, 3, 11, 7};
        int[] sure = {4, 6, 6, 0, 0, 2, 2, 2, 4, 4, 6};
        for (int place = 0; place < want.length; place++) {
            due(want[place], x.sample(place));
            due(sure[place], x.confidence(want[place]));
        }
        thrown(BOUNDS, x, y -> y.sample(11));
        // The day before, class 0 is not missed yet: doubt comes first, then all others.
        PaperlessRegistry y = room(1, 2, 1, 4);
        lessons(y, 0, 0, 3);
        y.terms(0, 1, 60);
        onDay(1, y);
        due(1, y.sample(0));
        due(3, y.sample(1));
        due(2, y.sample(2));
        y.day();
        due(2, y.sample(0));
        due(1, y.sample(1));
        due(3, y.sample(2));
    }

    @Says(in = "Terms", value = "those that are MISSED first, then those in DOUBT, then all others")
    static void groupAheadOfAnyConfidence() {
        // As sure as can be (240), but missed: ahead of doubt; not missed: behind it.
        PaperlessRegistry x = room(4095, 0, 4095, 4095);
        lessons(x, 0, 0, 10);
        due(240, x.confidence(2));
        due(1, x.sample(0));
        due(2, x.sample(1));
        due(3, x.sample(2));
        x.terms(0, 1, 60);
        onDay(2, x);
        due(2, x.sample(0));
        due(3, x.sample(1));
        due(1, x.sample(2));
        // In doubt with 19, ahead of a class with 2.
        PaperlessRegistry y = room(2, 1, 2, 3);
        lessons(y, 1, 0, 9);
        y.bar(19);
        y.teach(0, 1);
        y.teach(0, 0);
        due(19, y.confidence(3));
        due(2, y.sample(0));
        due(3, y.sample(1));
        y.bar(20);
        due(2, y.sample(0));
        due(3, y.sample(1));
    }

    @Says(in = "Terms", value = "of several by CONFIDENCE, the smallest first; then by number.")
    static void smallestConfidenceThenNumber() {
        PaperlessRegistry x = room(1, 1, 3, 2, 0, 3, 1, 0);
        x.bar(20);
        lessons(x, 0, 0, 4);
        x.teach(3, 1);
        // By number: 1 (8), 2 (6), 4 (0), 5 (6), 6 (8), 7 (0).
        int[] want = {4, 7, 2, 5, 1, 6};
        for (int place = 0; place < want.length; place++) {
            due(want[place], x.sample(place));
        }
    }

    @Says(in = "Terms", value = "The SAMPLE: all MAIN LETTERS that are not SETTLED, ANSWERED or not")
    static void sampleOfAllThatAreNotSettled() {
        PaperlessRegistry x = room(1, 1, 1);
        x.scan(2, 1, NONE);
        due(0, x.sample(0));
        due(2, x.sample(2));
        thrown(BOUNDS, x, y -> y.sample(3));
        lessons(x, 0, 0, 2);
        x.answer(1);
        due(1, x.sample(0));
        due(2, x.sample(1));
        thrown(BOUNDS, x, y -> y.sample(2));
        x.teach(2, 0);
        due(1, x.sample(0));
        thrown(BOUNDS, x, y -> y.sample(1));
    }

    // ---- Terms: what throws

    @Says(in = "Terms", value = "A method that throws an exception changes nothing.")
    static void nothingIsChangedByWhatThrows() {
        refused(BOUNDS, Edges::some, x -> x.scan(5, 1, 0), x -> x.scan(4, 1, 6), x -> x.ofLetter(6, 0),
                x -> x.score(6, 0), x -> x.score(0, 4), x -> x.confidence(6), x -> x.terms(4, 5, 5),
                x -> x.teach(6, 0), x -> x.teach(1, 4), x -> x.weight(12, 0), x -> x.weight(0, 4),
                x -> x.ofClass(4, 0), x -> x.join(2, 6), x -> x.join(6, 2), x -> x.answer(6), x -> x.ofFile(1, 0),
                x -> x.onShelf(3), x -> x.sample(2), x -> x.changedBy(6, 0), x -> x.changedBy(1, 4));
        refused(ARGUMENT, Edges::some, x -> x.scan(4, 4096, 0), x -> x.ofLetter(0, 11), x -> x.terms(2, 0, 5),
                x -> x.terms(2, 5, 61), x -> x.bar(0), x -> x.bar(21), x -> x.ofClass(0, 7), x -> x.join(5, 5),
                x -> x.ofFile(0, 5), x -> x.many(13), x -> x.classFor(4096), x -> x.missedIn(61),
                x -> x.destroyedIn(61));
        // Letter 0 is answered, letter 1 came on another day, letter 3 is in doubt.
        refused(STATE, Edges::some, x -> x.scan(0, 8, 2), x -> x.scan(1, 8, 2), x -> x.teach(0, 1), x -> x.answer(0),
                x -> x.answer(3));
        refused(STATE, Edges::full, PaperlessRegistry::envelope, x -> x.scan(15, 8, 2));
        refused(STATE, () -> answeredOn(199, 0), PaperlessRegistry::day);
    }

    @Says(in = "Terms", value = "If several exceptions apply, the one that is named first is thrown.")
    static void namedFirstOfScan() {
        // The envelope 0 is answered, the envelope 1 came on another day, the envelope 4 is empty.
        refused(BOUNDS, Edges::some, x -> x.scan(5, 4096, NONE), x -> x.scan(4, 4096, 6), x -> x.scan(4, -1, -2),
                x -> x.scan(0, 4096, 6), x -> x.scan(0, 0, 6), x -> x.scan(1, 0, -2));
        refused(ARGUMENT, Edges::some, x -> x.scan(0, 4096, NONE), x -> x.scan(1, -1, 0));
        refused(BOUNDS, Edges::full, x -> x.scan(16, 0, NONE), x -> x.scan(0, 0, 30), x -> x.scan(-1, -1, -2));
        refused(ARGUMENT, Edges::full, x -> x.scan(0, 4096, 29));
    }

    @Says(in = "Terms", value = "If several exceptions apply, the one that is named first is thrown.")
    static void namedFirstOfOfLetter() {
        refused(BOUNDS, Edges::some, x -> x.ofLetter(6, 11), x -> x.ofLetter(-1, -1));
    }

    @Says(in = "Terms", value = "If several exceptions apply, the one that is named first is thrown.")
    static void namedFirstOfTerms() {
        refused(BOUNDS, Edges::some, x -> x.terms(4, 0, 0), x -> x.terms(-1, 1, 61), x -> x.terms(4, 61, -1));
    }

    @Says(in = "Terms", value = "If several exceptions apply, the one that is named first is thrown.")
    static void namedFirstOfTeach() {
        refused(BOUNDS, Edges::some, x -> x.teach(0, 4), x -> x.teach(0, -1));
    }

    @Says(in = "Terms", value = "If several exceptions apply, the one that is named first is thrown.")
    static void namedFirstOfOfClass() {
        refused(BOUNDS, Edges::some, x -> x.ofClass(4, 7), x -> x.ofClass(-1, -1));
    }

    @Says(in = "Terms", value = "If several exceptions apply, the one that is named first is thrown.")
    static void namedFirstOfJoin() {
        refused(BOUNDS, Edges::some, x -> x.join(6, 6), x -> x.join(-1, -1), x -> x.join(MAX, MAX));
    }

    @Says(in = "Terms", value = "If several exceptions apply, the one that is named first is thrown.")
    static void namedFirstOfOfFile() {
        refused(BOUNDS, Edges::some, x -> x.ofFile(6, 5), x -> x.ofFile(-1, -1), x -> x.ofFile(4, 5));
    }

    // ---- what would be (nothing is changed)

    @Says(in = "Terms", value = "---- what would be (nothing is changed).")
    static void nothingIsChangedByWhatWouldBe() {
        Recipe[] recipes = {Edges::some, Edges::full, Edges::oneEnvelope, TermsEdges::threeGroups};
        Call[] calls = {x -> x.classFor(4095), x -> x.changedBy(0, 3), x -> x.changedBy(1, 2), x -> x.missedIn(60),
            x -> x.destroyedIn(60), PaperlessRegistry::digest};
        for (Recipe recipe : recipes) {
            String want = wholeState(recipe.make());
            for (Call call : calls) {
                PaperlessRegistry x = recipe.make();
                call.of(x);
                due(1, want.equals(wholeState(x)) ? 1 : 0);
                // The whole state asks for a checksum first: what that changed would stay unseen.
                PaperlessRegistry y = recipe.make();
                call.of(y);
                due(recipe.make().classFor(1), y.classFor(1));
            }
        }
    }
}
