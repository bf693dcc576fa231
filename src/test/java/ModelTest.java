import java.lang.reflect.InvocationTargetException;
import java.util.ArrayList;
import java.util.Collections;
import java.util.Comparator;
import java.util.HashSet;
import java.util.List;
import java.util.Random;
import java.util.Set;
import java.util.TreeMap;
import java.util.TreeSet;

/**
 * Random runs (of a fixed seed) against a second post room, written from the document in another
 * way: it keeps what happened and works everything out anew, and what would be it finds by letting
 * it happen in a copy.
 */
public final class ModelTest {
    private static final int NONE = -1;
    private static final int RUNS = 400;
    private static final int CALLS = 512;

    private static int wrong = 0;

    public static void main(String[] args) {
        TreeMap<String, Integer> seen = new TreeMap<>();
        for (int run = 0; run < RUNS && wrong < 20; run++) {
            new Run(run).play(seen);
        }
        System.out.println(seen);
        // Runs that never reach a state would show nothing of it.
        String[] reached = {"answer -", "answer ISE", "day >0", "day ISE", "envelope ISE", "scan ISE", "teach >0",
            "teach ISE", "destroyedIn >0", "missedIn >0", "many(9) >0", "many(8) >0", "destroyed waiting",
            "destroyed, put again", "reopened", "sample of 3 groups"};
        for (String state : reached) {
            if (!seen.containsKey(state)) {
                wrong++;
                System.out.println("no run reached: " + state);
            }
        }
        System.out.println(wrong == 0 ? "all runs are as the model's" : wrong + " runs are not as the model's");
        if (wrong != 0) {
            System.exit(1);
        }
    }

    /** One call: its name and arguments. */
    private record Call(String name, int... with) {
        @Override
        public String toString() {
            StringBuilder text = new StringBuilder(name).append('(');
            for (int n = 0; n < with.length; n++) {
                text.append(n == 0 ? "" : ", ").append(with[n]);
            }
            return text.append(')').toString();
        }
    }

    /** One run: its calls hang on its seed alone, and so does what there is most of in it. */
    private static final class Run {
        final int seed;
        final Random random;
        final PaperlessRegistry room = new PaperlessRegistry();
        final Model model = new Model();
        final int wordMask;
        final int dayWeight;
        final int oneOddIn;
        /** How many calls at its start only let letters come, so that shelves fill up. */
        final int filling;

        Run(int seed) {
            this.seed = seed;
            random = new Random(7919L * seed + 11);
            wordMask = new int[] {4095, 63, 7}[seed % 3];
            dayWeight = new int[] {2, 10, 40, 150}[seed / 3 % 4];
            oneOddIn = seed % 5 == 0 ? 16 : 100;
            filling = seed % 2 == 0 ? 40 : 0;
        }

        void play(TreeMap<String, Integer> seen) {
            List<String> told = new ArrayList<>();
            for (int n = 0; n < CALLS; n++) {
                Call call = n < filling ? arrival() : next();
                String want = answerOf(call, model);
                String got = answerOf(call, room);
                told.add(call + " -> " + got);
                if (!want.equals(got)) {
                    wrong++;
                    System.out.println("run " + seed + ", call " + n + ": " + call + " answered " + got
                            + ", due is " + want);
                    System.out.println("  ahead of it: " + told.subList(Math.max(0, n - 40), n));
                    return;
                }
                note(call, got, seen);
            }
            if (model.digest() != room.digest()) {
                wrong++;
                System.out.println("run " + seed + ": another digest at its end");
            }
        }

        void note(Call call, String got, TreeMap<String, Integer> seen) {
            String kind = got.startsWith("-") && call.name.equals("answer") ? "-"
                    : got.equals("IllegalStateException") ? "ISE"
                    : got.endsWith("Exception") ? "refused" : got.equals("0") ? "0" : ">0";
            seen.merge(call.name + (call.name.equals("many") ? "(" + call.with[0] + ")" : "") + " " + kind, 1,
                    Integer::sum);
            for (String state : model.reached) {
                seen.merge(state, 1, Integer::sum);
            }
            model.reached.clear();
        }

        Call arrival() {
            if (model.envelopes == 0 || random.nextInt(4) == 0) {
                return new Call("envelope");
            }
            return new Call("scan", below(model.envelopes), words(),
                    random.nextInt(5) == 0 ? below(model.letters.size()) : NONE);
        }

        Call next() {
            int letters = model.letters.size();
            int pick = random.nextInt(100 + dayWeight);
            if (pick >= 100) {
                return new Call("day");
            }
            if (pick < 10) {
                return arrival();
            }
            if (pick < 20) {
                return new Call("teach", openLetter(), below(4));
            }
            if (pick < 26) {
                return new Call("answer", openLetter());
            }
            if (pick < 29) {
                return new Call("join", below(letters), below(letters));
            }
            if (pick < 32) {
                return new Call("terms", below(4), 1 + below(random.nextBoolean() ? 60 : 5),
                        below(random.nextBoolean() ? 61 : 4));
            }
            if (pick < 35) {
                return new Call("bar", 1 + below(random.nextInt(4) == 0 ? 20 : 4));
            }
            return question(pick, letters);
        }

        /** Mostly a letter that is not answered: calls about others are mostly refused. */
        int openLetter() {
            int letter = below(model.letters.size());
            for (int n = 0; n < 5 && in(letter, 0, model.letters.size() - 1) && model.isAnswered(letter); n++) {
                letter = below(model.letters.size());
            }
            return letter;
        }

        Call question(int pick, int letters) {
            switch (pick % 13) {
                case 0: return new Call("ofLetter", below(letters), below(11));
                case 1: return new Call("score", below(letters), below(4));
                case 2: return new Call("confidence", below(letters));
                case 3: return new Call("weight", below(12), below(4));
                case 4: return new Call("ofClass", below(4), below(7));
                case 5: return new Call("ofFile", below(letters), below(5));
                case 6: return random.nextBoolean() ? new Call("onShelf", below(3)) : new Call("classFor", words());
                case 7: return new Call("sample", below(model.sample().size()));
                case 8: return new Call("many", below(13));
                case 9: return new Call("changedBy", below(letters), below(4));
                case 10: return new Call("missedIn", below(61));
                case 11: return new Call("destroyedIn", 1 + below(60));
                default: return new Call(random.nextInt(8) == 0 ? "digest" : "rightPart");
            }
        }

        /** Mostly a number from 0 to below the bound, now and then one just or far outside. */
        int below(int bound) {
            if (random.nextInt(oneOddIn) == 0) {
                int[] odd = {-1, bound, -2, bound + 1, Integer.MAX_VALUE, Integer.MIN_VALUE};
                return odd[random.nextInt(odd.length)];
            }
            return bound <= 0 ? 0 : random.nextInt(bound);
        }

        int words() {
            if (random.nextInt(oneOddIn) == 0) {
                return new int[] {-1, 4096, 4095, Integer.MAX_VALUE}[random.nextInt(4)];
            }
            int words = random.nextInt(4096) & wordMask;
            return random.nextBoolean() ? words : words & random.nextInt(4096);
        }
    }

    /** The answer of a room or of the model, or the name of the exception that it throws. */
    private static String answerOf(Call call, Object x) {
        Class<?>[] types = new Class<?>[call.with.length];
        Object[] with = new Object[call.with.length];
        for (int n = 0; n < with.length; n++) {
            types[n] = int.class;
            with[n] = call.with[n];
        }
        try {
            return "" + x.getClass().getDeclaredMethod(call.name, types).invoke(x, with);
        } catch (InvocationTargetException e) {
            return e.getCause().getClass().getSimpleName();
        } catch (ReflectiveOperationException e) {
            throw new AssertionError(e);
        }
    }

    private static void bounds(boolean holds) {
        if (!holds) {
            throw new IndexOutOfBoundsException();
        }
    }

    private static void argument(boolean holds) {
        if (!holds) {
            throw new IllegalArgumentException();
        }
    }

    private static void state(boolean holds) {
        if (!holds) {
            throw new IllegalStateException();
        }
    }

    private static boolean in(int value, int from, int to) {
        return value >= from && value <= to;
    }

    private record Lesson(Set<Integer> words, int kind) { }

    private static final class Paper {
        int number;
        int envelope;
        int words;
        int came;
        int reference;
        int shelf;
    }

    /** The second post room. */
    private static final class Model {
        final List<Paper> letters = new ArrayList<>();
        final List<int[]> joined = new ArrayList<>();
        final List<Lesson> lessons = new ArrayList<>();
        final TreeMap<Integer, Integer> settled = new TreeMap<>();
        final TreeMap<Integer, Integer> answered = new TreeMap<>();
        final int[] limits = {14, 14, 14, 14};
        final int[] keeps = {10, 10, 10, 10};
        final int[] right = new int[4];
        final int[] wrongOnes = new int[4];
        final Set<String> reached = new TreeSet<>();
        final int[][] table = new int[12][4];
        int tableAfter = 0;
        final List<TreeSet<Integer>> found = new ArrayList<>();
        int filesAfter = 0;
        int envelopes = 0;
        int bar = 3;
        int today = 0;

        Model copy() {
            Model m = new Model();
            for (Paper p : letters) {
                Paper q = new Paper();
                q.number = p.number;
                q.envelope = p.envelope;
                q.words = p.words;
                q.came = p.came;
                q.reference = p.reference;
                q.shelf = p.shelf;
                m.letters.add(q);
            }
            m.joined.addAll(joined);
            m.lessons.addAll(lessons);
            m.settled.putAll(settled);
            m.answered.putAll(answered);
            for (int k = 0; k < 4; k++) {
                m.limits[k] = limits[k];
                m.keeps[k] = keeps[k];
                m.right[k] = right[k];
                m.wrongOnes[k] = wrongOnes[k];
            }
            m.envelopes = envelopes;
            m.bar = bar;
            m.today = today;
            return m;
        }

        void letter(int n) {
            bounds(in(n, 0, letters.size() - 1));
        }

        void kind(int k) {
            bounds(in(k, 0, 3));
        }

        List<Integer> ofEnvelope(int e) {
            List<Integer> all = new ArrayList<>();
            for (Paper p : letters) {
                if (p.envelope == e) {
                    all.add(p.number);
                }
            }
            return all;
        }

        int main(int n) {
            return ofEnvelope(letters.get(n).envelope).get(0);
        }

        List<Integer> mains() {
            TreeSet<Integer> all = new TreeSet<>();
            for (Paper p : letters) {
                all.add(main(p.number));
            }
            return new ArrayList<>(all);
        }

        Set<Integer> wordsOf(int n) {
            Set<Integer> words = new TreeSet<>();
            for (int m : ofEnvelope(letters.get(n).envelope)) {
                words.addAll(wordSet(letters.get(m).words));
            }
            return words;
        }

        static Set<Integer> wordSet(int words) {
            Set<Integer> all = new TreeSet<>();
            for (int w = 0; w <= 11; w++) {
                if (words / (1 << w) % 2 == 1) {
                    all.add(w);
                }
            }
            return all;
        }

        /** Goes through all lessons again; the table only spares going through the same ones twice. */
        int weightNow(int word, int kind) {
            if (tableAfter != lessons.size()) {
                for (int w = 0; w < 12; w++) {
                    for (int k = 0; k < 4; k++) {
                        table[w][k] = weightAfterLessons(w, k);
                    }
                }
                tableAfter = lessons.size();
            }
            return table[word][kind];
        }

        int weightAfterLessons(int word, int kind) {
            int weight = 0;
            for (Lesson lesson : lessons) {
                if (lesson.words.contains(word)) {
                    weight += lesson.kind == kind ? 2 : -1;
                    weight = weight > 20 ? 20 : weight < 0 ? 0 : weight;
                }
            }
            return weight;
        }

        int scoreOf(Set<Integer> words, int kind) {
            int sum = 0;
            for (int word : words) {
                sum += weightNow(word, kind);
            }
            return sum;
        }

        int confidenceOf(Set<Integer> words) {
            List<Integer> scores = new ArrayList<>();
            for (int k = 0; k < 4; k++) {
                scores.add(scoreOf(words, k));
            }
            scores.sort(Collections.reverseOrder());
            return scores.get(0) - scores.get(1);
        }

        int kindFor(Set<Integer> words) {
            if (confidenceOf(words) < bar) {
                return NONE;
            }
            for (int k = 0; k < 4; k++) {
                boolean best = true;
                for (int other = 0; other < 4; other++) {
                    best = best && scoreOf(words, k) >= scoreOf(words, other);
                }
                if (best) {
                    return k;
                }
            }
            throw new AssertionError();
        }

        int kindOf(int n) {
            Integer told = settled.get(main(n));
            return told != null ? told : kindFor(wordsOf(n));
        }

        int deadline(int n) {
            int k = kindOf(n);
            return k == NONE ? NONE : letters.get(main(n)).came + limits[k];
        }

        boolean isAnswered(int n) {
            return answered.containsKey(main(n));
        }

        boolean isMissed(int n) {
            return !isAnswered(n) && deadline(n) != NONE && deadline(n) < today;
        }

        /** Kept till another letter or join comes: a search for each question would be slow. */
        TreeSet<Integer> file(int n) {
            if (filesAfter != letters.size() + joined.size()) {
                found.clear();
                for (Paper p : letters) {
                    found.add(search(p.number));
                }
                filesAfter = letters.size() + joined.size();
            }
            return found.get(n);
        }

        TreeSet<Integer> search(int n) {
            TreeSet<Integer> file = new TreeSet<>();
            file.add(n);
            boolean grown = true;
            while (grown) {
                grown = false;
                for (Paper p : letters) {
                    if (file.contains(p.number)) {
                        grown |= file.addAll(ofEnvelope(p.envelope));
                        grown |= p.reference != NONE && file.add(p.reference);
                    } else if (p.reference != NONE && file.contains(p.reference)) {
                        grown |= file.add(p.number);
                    }
                }
                for (int[] pair : joined) {
                    if (file.contains(pair[0]) || file.contains(pair[1])) {
                        grown |= file.add(pair[0]);
                        grown |= file.add(pair[1]);
                    }
                }
            }
            return file;
        }

        TreeSet<Integer> files() {
            TreeSet<Integer> all = new TreeSet<>();
            Set<Integer> done = new HashSet<>();
            for (Paper p : letters) {
                if (!done.contains(p.number)) {
                    TreeSet<Integer> file = file(p.number);
                    all.add(file.first());
                    done.addAll(file);
                }
            }
            return all;
        }

        int closed(TreeSet<Integer> file) {
            TreeSet<Integer> days = new TreeSet<>();
            for (int n : file) {
                if (!isAnswered(n)) {
                    return NONE;
                }
                days.add(answered.get(main(n)));
            }
            return days.last();
        }

        int freeShelf() {
            for (int s = 0; s < 3; s++) {
                if (onShelf(s) < 8) {
                    return s;
                }
            }
            return 3;
        }

        int at(int shelf) {
            int count = 0;
            for (Paper p : letters) {
                count += p.shelf == shelf ? 1 : 0;
            }
            return count;
        }

        int envelope() {
            state(envelopes < 16);
            return envelopes++;
        }

        int scan(int envelope, int words, int reference) {
            bounds(in(envelope, 0, envelopes - 1));
            bounds(in(reference, NONE, letters.size() - 1));
            argument(in(words, 0, 4095));
            state(letters.size() < 30);
            List<Integer> there = ofEnvelope(envelope);
            state(there.isEmpty() || !isAnswered(there.get(0)));
            state(there.isEmpty() || letters.get(there.get(0)).came == today);
            if (reference != NONE && closed(file(reference)) != NONE) {
                reached.add("reopened");
            }
            Paper p = new Paper();
            p.number = letters.size();
            p.envelope = envelope;
            p.words = words;
            p.came = today;
            p.reference = reference;
            p.shelf = freeShelf();
            letters.add(p);
            return p.number;
        }

        int ofLetter(int letter, int what) {
            letter(letter);
            argument(in(what, 0, 10));
            Paper p = letters.get(letter);
            int[] all = {p.envelope, p.words, p.came, main(letter), kindOf(letter), deadline(letter),
                settled.containsKey(main(letter)) ? 1 : 0, isAnswered(letter) ? 1 : 0, isMissed(letter) ? 1 : 0,
                what == 9 ? file(letter).first() : 0, p.shelf};
            return all[what];
        }

        int score(int letter, int kind) {
            letter(letter);
            kind(kind);
            return scoreOf(wordsOf(letter), kind);
        }

        int confidence(int letter) {
            letter(letter);
            return confidenceOf(wordsOf(letter));
        }

        int terms(int kind, int limit, int keep) {
            kind(kind);
            argument(in(limit, 1, 60));
            argument(in(keep, 0, 60));
            int before = limits[kind];
            limits[kind] = limit;
            keeps[kind] = keep;
            return before;
        }

        int bar(int value) {
            argument(in(value, 1, 20));
            int before = bar;
            bar = value;
            return before;
        }

        int teach(int letter, int kind) {
            letter(letter);
            kind(kind);
            state(!isAnswered(letter));
            return lesson(letter, kind);
        }

        int lesson(int letter, int kind) {
            TreeMap<Integer, Integer> before = new TreeMap<>();
            for (int m : mains()) {
                before.put(m, kindOf(m));
            }
            int had = before.remove(main(letter));
            settled.put(main(letter), kind);
            lessons.add(new Lesson(wordsOf(letter), kind));
            right[kind] += had == kind ? 1 : 0;
            wrongOnes[kind] += had != kind && had != NONE ? 1 : 0;
            int changed = 0;
            for (int m : before.keySet()) {
                changed += kindOf(m) != before.get(m) ? 1 : 0;
            }
            return changed;
        }

        int weight(int word, int kind) {
            bounds(in(word, 0, 11));
            kind(kind);
            return weightNow(word, kind);
        }

        int ofClass(int kind, int what) {
            kind(kind);
            argument(in(what, 0, 6));
            int have = 0;
            int missed = 0;
            for (int m : mains()) {
                have += kindOf(m) == kind ? 1 : 0;
                missed += kindOf(m) == kind && isMissed(m) ? 1 : 0;
            }
            int told = 0;
            for (Lesson lesson : lessons) {
                told += lesson.kind == kind ? 1 : 0;
            }
            return new int[] {limits[kind], keeps[kind], have, missed, told, right[kind], wrongOnes[kind]}[what];
        }

        int join(int one, int other) {
            letter(one);
            letter(other);
            argument(one != other);
            joined.add(new int[] {one, other});
            return file(one).size();
        }

        int answer(int letter) {
            letter(letter);
            state(kindOf(letter) != NONE && !isAnswered(letter));
            answered.put(main(letter), today);
            return deadline(letter) - today;
        }

        int ofFile(int number, int what) {
            letter(number);
            TreeSet<Integer> file = file(number);
            bounds(file.first() == number);
            argument(in(what, 0, 4));
            int open = 0;
            int kept = 0;
            TreeSet<Integer> deadlines = new TreeSet<>();
            for (int n : file) {
                kept += letters.get(n).shelf != NONE ? 1 : 0;
                open += isAnswered(n) ? 0 : 1;
                if (!isAnswered(n) && kindOf(n) != NONE) {
                    deadlines.add(deadline(n));
                }
            }
            int earliest = deadlines.isEmpty() ? NONE : deadlines.first();
            return new int[] {file.size(), open, earliest, closed(file), kept}[what];
        }

        int onShelf(int shelf) {
            bounds(in(shelf, 0, 2));
            return at(shelf);
        }

        int day() {
            state(today < 199);
            return nextDay();
        }

        int nextDay() {
            today++;
            int destroyed = 0;
            for (Paper p : letters) {
                int closed = closed(file(p.number));
                int kind = kindOf(p.number);
                if (p.shelf != NONE && closed != NONE && kind != NONE && today >= closed + keeps[kind]) {
                    if (p.shelf == 3) {
                        reached.add("destroyed waiting");
                    }
                    p.shelf = NONE;
                    destroyed++;
                }
            }
            for (Paper p : letters) {
                if (p.shelf == 3) {
                    p.shelf = freeShelf();
                    if (p.shelf != 3) {
                        reached.add("destroyed, put again");
                    }
                }
            }
            return destroyed;
        }

        List<Integer> sample() {
            List<Integer> all = new ArrayList<>();
            Set<Integer> groups = new HashSet<>();
            TreeMap<Integer, Integer> group = new TreeMap<>();
            TreeMap<Integer, Integer> sure = new TreeMap<>();
            for (int m : mains()) {
                if (!settled.containsKey(m)) {
                    all.add(m);
                    group.put(m, isMissed(m) ? 0 : kindOf(m) == NONE ? 1 : 2);
                    sure.put(m, confidenceOf(wordsOf(m)));
                    groups.add(group.get(m));
                }
            }
            if (groups.size() == 3) {
                reached.add("sample of 3 groups");
            }
            Collections.shuffle(all, new Random(5));
            all.sort(Comparator.<Integer>comparingInt(group::get).thenComparingInt(sure::get)
                    .thenComparingInt(n -> n));
            return all;
        }

        int sample(int place) {
            List<Integer> all = sample();
            bounds(in(place, 0, all.size() - 1));
            return all.get(place);
        }

        int many(int what) {
            argument(in(what, 0, 12));
            int doubt = 0;
            int missed = 0;
            for (int m : mains()) {
                doubt += kindOf(m) == NONE ? 1 : 0;
                missed += isMissed(m) ? 1 : 0;
            }
            int closed = 0;
            for (int f : files()) {
                closed += closed(file(f)) != NONE ? 1 : 0;
            }
            return new int[] {envelopes, letters.size(), mains().size(), doubt, settled.size(), answered.size(),
                missed, files().size(), closed, at(3), at(NONE), lessons.size(), today}[what];
        }

        double rightPart() {
            int rights = 0;
            int all = 0;
            for (int k = 0; k < 4; k++) {
                rights += right[k];
                all += right[k] + wrongOnes[k];
            }
            return all == 0 ? 0 : 1.0 * rights / all;
        }

        int classFor(int words) {
            argument(in(words, 0, 4095));
            return kindFor(wordSet(words));
        }

        int changedBy(int letter, int kind) {
            letter(letter);
            kind(kind);
            return copy().lesson(letter, kind);
        }

        int missedIn(int days) {
            argument(in(days, 0, 60));
            Model later = copy();
            for (int n = 0; n < days; n++) {
                later.nextDay();
            }
            return later.many(6);
        }

        int destroyedIn(int days) {
            argument(in(days, 1, 60));
            Model later = copy();
            int destroyed = 0;
            for (int n = 0; n < days && later.today < 199; n++) {
                destroyed += later.day();
            }
            return destroyed;
        }

        long digest() {
            List<Integer> all = new ArrayList<>();
            for (int what = 0; what <= 12; what++) {
                all.add(many(what));
            }
            for (int n = 0; n < letters.size(); n++) {
                for (int what = 0; what <= 10; what++) {
                    all.add(ofLetter(n, what));
                }
                for (int k = 0; k < 4; k++) {
                    all.add(score(n, k));
                }
                all.add(confidence(n));
            }
            for (int k = 0; k < 4; k++) {
                for (int what = 0; what <= 6; what++) {
                    all.add(ofClass(k, what));
                }
            }
            for (int f : files()) {
                for (int what = 0; what <= 4; what++) {
                    all.add(ofFile(f, what));
                }
            }
            for (int s = 0; s < 3; s++) {
                all.add(onShelf(s));
            }
            all.addAll(sample());
            all.add(missedIn(10));
            all.add(destroyedIn(20));
            long d = 58122;
            for (int v : all) {
                d = d * 31 + v;
            }
            return d;
        }
    }
}
