/**
 * A post room without paper: letters come in envelopes, are put into classes by learnt words, are
 * joined to files, have deadlines, and their originals lie on shelves till they are destroyed.
 */
public final class PaperlessRegistry {
    private static final int NONE = -1;
    private static final int ENVELOPES = 16;
    private static final int LETTERS = 30;
    private static final int WORDS = 12;
    private static final int ALL_WORDS = (1 << WORDS) - 1;
    private static final int KINDS = 4;
    private static final int SHELVES = 3;
    private static final int PLACES = 8;
    /** Where an original is that is on no shelf, but not destroyed: the number behind the last shelf. */
    private static final int WAITS = SHELVES;
    private static final int LAST_DAY = 199;
    private static final int MOST_DAYS = 60;
    private static final int MOST_BAR = 20;
    private static final int MOST_WEIGHT = 20;

    private static final int LAST_OF_LETTER = 10;
    private static final int LAST_OF_CLASS = 6;
    private static final int LAST_OF_FILE = 4;
    private static final int LAST_OF_MANY = 12;

    private static final int SAMPLE_MISSED = 0;
    private static final int SAMPLE_DOUBT = 1;
    private static final int SAMPLE_OTHER = 2;
    /** More than any confidence, which is at most all words times the greatest weight. */
    private static final int SAMPLE_GROUP = WORDS * MOST_WEIGHT + 1;

    private static final long DIGEST_START = 58122L;
    private static final int DIGEST_MISSED_IN = 10;
    private static final int DIGEST_DESTROYED_IN = 20;

    /** One scanned letter; what goes with its main letter is held in the main one's row alone. */
    private static final class Letter {
        int envelope = 0;
        int words = 0;
        int came = 0;
        int main = 0;
        int file = 0;
        int shelf = NONE;

        // In the row of a main letter alone:
        int allWords = 0;
        int toldKind = NONE;
        /** As weights and bar are now: judgeLetters() follows whatever changes these, or the words. */
        int kind = NONE;
        int answeredOn = NONE;
    }

    /** One class: its terms, and what its lessons came to. */
    private static final class Kind {
        int limit = 14;
        int keep = 10;
        int lessons = 0;
        int right = 0;
        int wrong = 0;
    }

    /** The weights of all words for all classes, and what they say of a set of words. */
    private static final class Weights {
        final int[][] table = new int[WORDS][KINDS];
        /** Used again by each question, so that none makes a row of its own. */
        final int[] sums = new int[KINDS];

        void addUp(int words) {
            for (int kind = 0; kind < KINDS; kind++) {
                sums[kind] = 0;
            }
            for (int word = 0; word < WORDS; word++) {
                if (holds(words, word)) {
                    for (int kind = 0; kind < KINDS; kind++) {
                        sums[kind] += table[word][kind];
                    }
                }
            }
        }

        int greatestKind() {
            int best = 0;
            for (int kind = 1; kind < KINDS; kind++) {
                if (sums[kind] > sums[best]) {
                    best = kind;
                }
            }
            return best;
        }

        int lead() {
            int greatest = 0;
            int next = 0;
            for (int kind = 0; kind < KINDS; kind++) {
                if (sums[kind] > greatest) {
                    next = greatest;
                    greatest = sums[kind];
                } else if (sums[kind] > next) {
                    next = sums[kind];
                }
            }
            return greatest - next;
        }

        int sumOf(int words, int kind) {
            addUp(words);
            return sums[kind];
        }

        int leadOf(int words) {
            addUp(words);
            return lead();
        }

        int kindFor(int words, int leastLead) {
            addUp(words);
            return lead() >= leastLead ? greatestKind() : NONE;
        }

        void learn(int words, int told) {
            for (int word = 0; word < WORDS; word++) {
                if (holds(words, word)) {
                    for (int kind = 0; kind < KINDS; kind++) {
                        int now = table[word][kind];
                        table[word][kind] = kind == told
                                ? Math.min(now + 2, MOST_WEIGHT) : Math.max(now - 1, 0);
                    }
                }
            }
        }

        void copyFrom(Weights other) {
            for (int word = 0; word < WORDS; word++) {
                for (int kind = 0; kind < KINDS; kind++) {
                    table[word][kind] = other.table[word][kind];
                }
            }
        }

        static boolean holds(int words, int word) {
            return ((words >> word) & 1) == 1;
        }
    }

    private final Letter[] letters = new Letter[LETTERS];
    private final Kind[] kinds = new Kind[KINDS];
    private final Weights weights = new Weights();
    /** The weights as a lesson would make them; holds nothing between two calls. */
    private final Weights trial = new Weights();
    private final int[] mainOfEnvelope = new int[ENVELOPES];
    /** The sample as last put in order; holds nothing between two calls. */
    private final int[] sampleLetters = new int[LETTERS];
    private final int[] sampleKeys = new int[LETTERS];
    private int envelopeCount = 0;
    private int letterCount = 0;
    private int leastConfidence = 3;
    private int today = 0;

    public PaperlessRegistry() {
        for (int n = 0; n < LETTERS; n++) {
            letters[n] = new Letter();
        }
        for (int kind = 0; kind < KINDS; kind++) {
            kinds[kind] = new Kind();
        }
        for (int n = 0; n < ENVELOPES; n++) {
            mainOfEnvelope[n] = NONE;
        }
    }

    // ---- letters

    public int envelope() throws IllegalStateException {
        if (envelopeCount >= ENVELOPES) {
            throw new IllegalStateException("there are 16 envelopes");
        }
        int number = envelopeCount;
        envelopeCount++;
        return number;
    }

    public int scan(int envelope, int words, int reference)
            throws IndexOutOfBoundsException, IllegalArgumentException, IllegalStateException {
        if (envelope < 0 || envelope >= envelopeCount) {
            throw new IndexOutOfBoundsException("no such envelope");
        }
        if (reference != NONE) {
            requireLetter(reference);
        }
        requireWords(words);
        if (letterCount >= LETTERS) {
            throw new IllegalStateException("there are 30 letters");
        }
        int main = mainOfEnvelope[envelope];
        if (main != NONE && (isAnswered(main) || letters[main].came != today)) {
            throw new IllegalStateException("nothing can be added to this envelope any more");
        }
        return addLetter(envelope, words, reference);
    }

    public int ofLetter(int letter, int what) throws IndexOutOfBoundsException, IllegalArgumentException {
        requireLetter(letter);
        requireWhat(what, LAST_OF_LETTER);
        return letterFact(letter, what);
    }

    public int score(int letter, int kind) throws IndexOutOfBoundsException {
        requireLetter(letter);
        requireKind(kind);
        return weights.sumOf(mainRow(letter).allWords, kind);
    }

    public int confidence(int letter) throws IndexOutOfBoundsException {
        requireLetter(letter);
        return weights.leadOf(mainRow(letter).allWords);
    }

    // ---- classes and lessons

    public int terms(int kind, int limit, int keep) throws IndexOutOfBoundsException, IllegalArgumentException {
        requireKind(kind);
        if (limit < 1 || limit > MOST_DAYS) {
            throw new IllegalArgumentException("a limit is 1 to 60");
        }
        if (keep < 0 || keep > MOST_DAYS) {
            throw new IllegalArgumentException("a keep is 0 to 60");
        }
        int before = kinds[kind].limit;
        kinds[kind].limit = limit;
        kinds[kind].keep = keep;
        return before;
    }

    public int bar(int bar) throws IllegalArgumentException {
        if (bar < 1 || bar > MOST_BAR) {
            throw new IllegalArgumentException("the bar is 1 to 20");
        }
        int before = leastConfidence;
        leastConfidence = bar;
        judgeLetters();
        return before;
    }

    public int teach(int letter, int kind) throws IndexOutOfBoundsException, IllegalStateException {
        requireLetter(letter);
        requireKind(kind);
        if (isAnswered(letter)) {
            throw new IllegalStateException("the letter is answered");
        }
        int changed = changedByLesson(letter, kind);
        countLesson(kind, kindOf(letter));
        mainRow(letter).toldKind = kind;
        weights.learn(mainRow(letter).allWords, kind);
        judgeLetters();
        return changed;
    }

    public int weight(int word, int kind) throws IndexOutOfBoundsException {
        if (word < 0 || word >= WORDS) {
            throw new IndexOutOfBoundsException("no such word");
        }
        requireKind(kind);
        return weights.table[word][kind];
    }

    public int ofClass(int kind, int what) throws IndexOutOfBoundsException, IllegalArgumentException {
        requireKind(kind);
        requireWhat(what, LAST_OF_CLASS);
        return kindFact(kind, what);
    }

    // ---- files, answers and shelves

    public int join(int one, int other) throws IndexOutOfBoundsException, IllegalArgumentException {
        requireLetter(one);
        requireLetter(other);
        if (one == other) {
            throw new IllegalArgumentException("a letter is not joined to itself");
        }
        mergeFiles(one, other);
        return lettersInFile(letters[one].file);
    }

    public int answer(int letter) throws IndexOutOfBoundsException, IllegalStateException {
        requireLetter(letter);
        int deadline = deadlineOf(letter);
        if (deadline == NONE) {
            throw new IllegalStateException("the letter is in doubt");
        }
        if (isAnswered(letter)) {
            throw new IllegalStateException("the letter is answered");
        }
        mainRow(letter).answeredOn = today;
        return deadline - today;
    }

    public int ofFile(int file, int what) throws IndexOutOfBoundsException, IllegalArgumentException {
        if (file < 0 || file >= letterCount || !isFile(file)) {
            throw new IndexOutOfBoundsException("no such file");
        }
        requireWhat(what, LAST_OF_FILE);
        return fileFact(file, what);
    }

    public int onShelf(int shelf) throws IndexOutOfBoundsException {
        if (shelf < 0 || shelf >= SHELVES) {
            throw new IndexOutOfBoundsException("no such shelf");
        }
        return originalsAt(shelf);
    }

    public int day() throws IllegalStateException {
        if (today >= LAST_DAY) {
            throw new IllegalStateException("it is the last day");
        }
        today++;
        int destroyed = destroyOriginals();
        shelveWaiting();
        return destroyed;
    }

    // ---- what is asked

    public int sample(int place) throws IndexOutOfBoundsException {
        int size = orderSample();
        if (place < 0 || place >= size) {
            throw new IndexOutOfBoundsException("no such place");
        }
        return sampleLetters[place];
    }

    public int many(int what) throws IllegalArgumentException {
        requireWhat(what, LAST_OF_MANY);
        return roomFact(what);
    }

    public double rightPart() {
        int right = 0;
        int judged = 0;
        for (int kind = 0; kind < KINDS; kind++) {
            right += kinds[kind].right;
            judged += kinds[kind].right + kinds[kind].wrong;
        }
        return judged == 0 ? 0.0 : (double) right / (double) judged;
    }

    // ---- what would be (nothing is changed)

    public int classFor(int words) throws IllegalArgumentException {
        requireWords(words);
        return weights.kindFor(words, leastConfidence);
    }

    public int changedBy(int letter, int kind) throws IndexOutOfBoundsException {
        requireLetter(letter);
        requireKind(kind);
        return changedByLesson(letter, kind);
    }

    public int missedIn(int days) throws IllegalArgumentException {
        if (days < 0 || days > MOST_DAYS) {
            throw new IllegalArgumentException("days are 0 to 60");
        }
        return missedOn(today + days);
    }

    public int destroyedIn(int days) throws IllegalArgumentException {
        if (days < 1 || days > MOST_DAYS) {
            throw new IllegalArgumentException("days are 1 to 60");
        }
        return destroyedWithin(days);
    }

    public long digest() {
        long d = DIGEST_START;
        for (int what = 0; what <= LAST_OF_MANY; what++) {
            d = digestWith(d, roomFact(what));
        }
        d = digestLetters(d);
        d = digestKinds(d);
        d = digestFiles(d);
        for (int shelf = 0; shelf < SHELVES; shelf++) {
            d = digestWith(d, originalsAt(shelf));
        }
        d = digestSample(d);
        d = digestWith(d, missedOn(today + DIGEST_MISSED_IN));
        return digestWith(d, destroyedWithin(DIGEST_DESTROYED_IN));
    }

    // ---- what the calls refuse

    private void requireLetter(int letter) {
        if (letter < 0 || letter >= letterCount) {
            throw new IndexOutOfBoundsException("no such letter");
        }
    }

    private static void requireKind(int kind) {
        if (kind < 0 || kind >= KINDS) {
            throw new IndexOutOfBoundsException("no such class");
        }
    }

    private static void requireWords(int words) {
        if (words < 0 || words > ALL_WORDS) {
            throw new IllegalArgumentException("words are 0 to 4095");
        }
    }

    private static void requireWhat(int what, int last) {
        if (what < 0 || what > last) {
            throw new IllegalArgumentException("nothing is told under this number");
        }
    }

    // ---- letters, and what goes with their main ones

    private int addLetter(int envelope, int words, int reference) {
        int number = letterCount;
        int shelf = firstFreeShelf();
        letterCount++;
        if (mainOfEnvelope[envelope] == NONE) {
            mainOfEnvelope[envelope] = number;
        }
        int main = mainOfEnvelope[envelope];
        Letter row = letters[number];
        row.envelope = envelope;
        row.words = words;
        row.came = today;
        row.main = main;
        row.file = number;
        row.shelf = shelf;
        letters[main].allWords |= words;
        judgeLetters();
        mergeFiles(number, main);
        if (reference != NONE) {
            mergeFiles(number, reference);
        }
        return number;
    }

    private boolean isMain(int letter) {
        return letters[letter].main == letter;
    }

    private Letter mainRow(int letter) {
        return letters[letters[letter].main];
    }

    private boolean isSettled(int letter) {
        return mainRow(letter).toldKind != NONE;
    }

    private boolean isAnswered(int letter) {
        return mainRow(letter).answeredOn != NONE;
    }

    private int kindOf(int letter) {
        return mainRow(letter).kind;
    }

    private int deadlineOf(int letter) {
        Letter main = mainRow(letter);
        return main.kind == NONE ? NONE : main.came + kinds[main.kind].limit;
    }

    private boolean isMissedOn(int letter, int onDay) {
        if (isAnswered(letter)) {
            return false;
        }
        int deadline = deadlineOf(letter);
        return deadline != NONE && deadline < onDay;
    }

    private int letterFact(int letter, int what) {
        switch (what) {
            case 0: return letters[letter].envelope;
            case 1: return letters[letter].words;
            case 2: return letters[letter].came;
            case 3: return letters[letter].main;
            case 4: return kindOf(letter);
            case 5: return deadlineOf(letter);
            case 6: return isSettled(letter) ? 1 : 0;
            case 7: return isAnswered(letter) ? 1 : 0;
            case 8: return isMissedOn(letter, today) ? 1 : 0;
            case 9: return letters[letter].file;
            default: return letters[letter].shelf;
        }
    }

    // ---- what the weights say, and lessons

    private int kindBy(Weights judge, Letter main) {
        return main.toldKind != NONE ? main.toldKind : judge.kindFor(main.allWords, leastConfidence);
    }

    private void judgeLetters() {
        for (int n = 0; n < letterCount; n++) {
            if (isMain(n)) {
                letters[n].kind = kindBy(weights, letters[n]);
            }
        }
    }

    private int changedByLesson(int letter, int kind) {
        int taught = letters[letter].main;
        trial.copyFrom(weights);
        trial.learn(letters[taught].allWords, kind);
        int changed = 0;
        for (int n = 0; n < letterCount; n++) {
            if (n != taught && isMain(n) && kindBy(trial, letters[n]) != letters[n].kind) {
                changed++;
            }
        }
        return changed;
    }

    private void countLesson(int kind, int kindAhead) {
        kinds[kind].lessons++;
        if (kindAhead == kind) {
            kinds[kind].right++;
        } else if (kindAhead != NONE) {
            kinds[kind].wrong++;
        }
    }

    private int kindFact(int kind, int what) {
        switch (what) {
            case 0: return kinds[kind].limit;
            case 1: return kinds[kind].keep;
            case 2: return mainsOfKind(kind);
            case 3: return missedOfKind(kind);
            case 4: return kinds[kind].lessons;
            case 5: return kinds[kind].right;
            default: return kinds[kind].wrong;
        }
    }

    private int missedOfKind(int kind) {
        int count = 0;
        for (int n = 0; n < letterCount; n++) {
            if (isMain(n) && kindOf(n) == kind && isMissedOn(n, today)) {
                count++;
            }
        }
        return count;
    }

    // ---- files

    private boolean isFile(int number) {
        return letters[number].file == number;
    }

    private void mergeFiles(int one, int other) {
        int kept = Math.min(letters[one].file, letters[other].file);
        int given = Math.max(letters[one].file, letters[other].file);
        for (int n = 0; n < letterCount; n++) {
            if (letters[n].file == given) {
                letters[n].file = kept;
            }
        }
    }

    private int fileFact(int file, int what) {
        switch (what) {
            case 0: return lettersInFile(file);
            case 1: return openInFile(file);
            case 2: return earliestInFile(file);
            case 3: return closedOn(file);
            default: return originalsInFile(file);
        }
    }

    private int lettersInFile(int file) {
        int count = 0;
        for (int n = 0; n < letterCount; n++) {
            if (letters[n].file == file) {
                count++;
            }
        }
        return count;
    }

    private int openInFile(int file) {
        int count = 0;
        for (int n = 0; n < letterCount; n++) {
            if (letters[n].file == file && !isAnswered(n)) {
                count++;
            }
        }
        return count;
    }

    private int earliestInFile(int file) {
        int earliest = NONE;
        for (int n = 0; n < letterCount; n++) {
            if (letters[n].file == file && !isAnswered(n)) {
                int deadline = deadlineOf(n);
                if (deadline != NONE && (earliest == NONE || deadline < earliest)) {
                    earliest = deadline;
                }
            }
        }
        return earliest;
    }

    private int closedOn(int file) {
        int latest = NONE;
        for (int n = 0; n < letterCount; n++) {
            if (letters[n].file == file) {
                if (!isAnswered(n)) {
                    return NONE;
                }
                latest = Math.max(latest, mainRow(n).answeredOn);
            }
        }
        return latest;
    }

    private int originalsInFile(int file) {
        int count = 0;
        for (int n = 0; n < letterCount; n++) {
            if (letters[n].file == file && letters[n].shelf != NONE) {
                count++;
            }
        }
        return count;
    }

    // ---- originals

    private int originalsAt(int shelf) {
        int count = 0;
        for (int n = 0; n < letterCount; n++) {
            if (letters[n].shelf == shelf) {
                count++;
            }
        }
        return count;
    }

    private int firstFreeShelf() {
        for (int shelf = 0; shelf < SHELVES; shelf++) {
            if (originalsAt(shelf) < PLACES) {
                return shelf;
            }
        }
        return WAITS;
    }

    private boolean isDestroyedBy(int letter, int onDay) {
        if (letters[letter].shelf == NONE) {
            return false;
        }
        int closed = closedOn(letters[letter].file);
        if (closed == NONE) {
            return false;
        }
        int kind = kindOf(letter);
        return kind != NONE && onDay >= closed + kinds[kind].keep;
    }

    private int destroyOriginals() {
        int destroyed = 0;
        for (int n = 0; n < letterCount; n++) {
            if (isDestroyedBy(n, today)) {
                letters[n].shelf = NONE;
                destroyed++;
            }
        }
        return destroyed;
    }

    private void shelveWaiting() {
        for (int n = 0; n < letterCount; n++) {
            if (letters[n].shelf == WAITS) {
                letters[n].shelf = firstFreeShelf();
            }
        }
    }

    private int destroyedWithin(int days) {
        int lastDay = Math.min(today + days, LAST_DAY);
        int destroyed = 0;
        // Originals are destroyed as a day begins: on the last day, what is due already stays.
        if (lastDay > today) {
            for (int n = 0; n < letterCount; n++) {
                if (isDestroyedBy(n, lastDay)) {
                    destroyed++;
                }
            }
        }
        return destroyed;
    }

    // ---- the sample

    private int orderSample() {
        int size = 0;
        for (int n = 0; n < letterCount; n++) {
            if (isMain(n) && !isSettled(n)) {
                insertIntoSample(n, sampleKey(n), size);
                size++;
            }
        }
        return size;
    }

    /** Letters come by number, so one of an equal key stays behind those that are there. */
    private void insertIntoSample(int letter, int key, int size) {
        int place = size;
        while (place > 0 && sampleKeys[place - 1] > key) {
            sampleKeys[place] = sampleKeys[place - 1];
            sampleLetters[place] = sampleLetters[place - 1];
            place--;
        }
        sampleKeys[place] = key;
        sampleLetters[place] = letter;
    }

    private int sampleKey(int letter) {
        int group = SAMPLE_OTHER;
        if (isMissedOn(letter, today)) {
            group = SAMPLE_MISSED;
        } else if (kindOf(letter) == NONE) {
            group = SAMPLE_DOUBT;
        }
        return group * SAMPLE_GROUP + weights.leadOf(mainRow(letter).allWords);
    }

    // ---- the whole room

    private int roomFact(int what) {
        switch (what) {
            case 0: return envelopeCount;
            case 1: return letterCount;
            case 2: return countMains();
            case 3: return mainsOfKind(NONE);
            case 4: return countSettled();
            case 5: return countAnswered();
            case 6: return missedOn(today);
            case 7: return countFiles();
            case 8: return countClosed();
            case 9: return originalsAt(WAITS);
            case 10: return originalsAt(NONE);
            case 11: return countLessons();
            default: return today;
        }
    }

    private int countMains() {
        int count = 0;
        for (int n = 0; n < letterCount; n++) {
            if (isMain(n)) {
                count++;
            }
        }
        return count;
    }

    private int mainsOfKind(int kind) {
        int count = 0;
        for (int n = 0; n < letterCount; n++) {
            if (isMain(n) && kindOf(n) == kind) {
                count++;
            }
        }
        return count;
    }

    private int countSettled() {
        int count = 0;
        for (int n = 0; n < letterCount; n++) {
            if (isMain(n) && isSettled(n)) {
                count++;
            }
        }
        return count;
    }

    private int countAnswered() {
        int count = 0;
        for (int n = 0; n < letterCount; n++) {
            if (isMain(n) && isAnswered(n)) {
                count++;
            }
        }
        return count;
    }

    private int missedOn(int onDay) {
        int count = 0;
        for (int n = 0; n < letterCount; n++) {
            if (isMain(n) && isMissedOn(n, onDay)) {
                count++;
            }
        }
        return count;
    }

    private int countFiles() {
        int count = 0;
        for (int n = 0; n < letterCount; n++) {
            if (isFile(n)) {
                count++;
            }
        }
        return count;
    }

    private int countClosed() {
        int count = 0;
        for (int n = 0; n < letterCount; n++) {
            if (isFile(n) && closedOn(n) != NONE) {
                count++;
            }
        }
        return count;
    }

    private int countLessons() {
        int count = 0;
        for (int kind = 0; kind < KINDS; kind++) {
            count += kinds[kind].lessons;
        }
        return count;
    }

    // ---- the checksum

    private static long digestWith(long d, int value) {
        return d * 31L + value;
    }

    private long digestLetters(long start) {
        long d = start;
        for (int n = 0; n < letterCount; n++) {
            for (int what = 0; what <= LAST_OF_LETTER; what++) {
                d = digestWith(d, letterFact(n, what));
            }
            for (int kind = 0; kind < KINDS; kind++) {
                d = digestWith(d, weights.sumOf(mainRow(n).allWords, kind));
            }
            d = digestWith(d, weights.leadOf(mainRow(n).allWords));
        }
        return d;
    }

    private long digestKinds(long start) {
        long d = start;
        for (int kind = 0; kind < KINDS; kind++) {
            for (int what = 0; what <= LAST_OF_CLASS; what++) {
                d = digestWith(d, kindFact(kind, what));
            }
        }
        return d;
    }

    private long digestFiles(long start) {
        long d = start;
        for (int n = 0; n < letterCount; n++) {
            if (isFile(n)) {
                for (int what = 0; what <= LAST_OF_FILE; what++) {
                    d = digestWith(d, fileFact(n, what));
                }
            }
        }
        return d;
    }

    private long digestSample(long start) {
        long d = start;
        int size = orderSample();
        for (int place = 0; place < size; place++) {
            d = digestWith(d, sampleLetters[place]);
        }
        return d;
    }
}
