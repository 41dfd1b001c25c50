/**
 * Witnesses who are asked and led: what each holds of a case, how sure he is,
 * and from where he has it. The document is ../shared/DOC.md.
 */
public final class LedWitness {
    public static final int NONE = -1, UNKNOWN = -101, OUTSIDE = -102, STATE = -103, FULL = -104;

    private static final int FEATURES = 6;
    private static final int THINGS = 4;
    private static final int NOTHING = 4;
    private static final int WITNESSES = 4;
    private static final int PAIRS = 6;
    private static final int MOST_SURE = 9;
    private static final int WORDS = 5;
    private static final int MOST_SAID = 6;

    private static final int SAW_IT = 0;
    private static final int BY_QUESTION = 1;
    private static final int FIRST_WITNESS = 2;

    private static final int PAGE_ROOM = 10;
    private static final int CASE_LENGTH = 8;
    private static final int MOST_STRESS = 4;
    private static final int MOST_CORRIDORS = 20;
    private static final int MOST_WEEKS = 60;
    private static final int BELOW_2_TO_31 = 0x7fffffff;

    private static final Kind[] KINDS = Kind.values();

    private final int[] page = new int[PAGE_ROOM];
    private int letters;

    private final int[] truth = new int[FEATURES];
    private int stress;
    private int casesRead;

    private final Hall now = new Hall();
    private final Hall kept = new Hall();
    private boolean keeps;

    private final Corridor orders = new Corridor();
    private int corridorsDone;

    private final Hall trial = new Hall();
    private int seedNow;
    private int trialYields;

    public LedWitness() {
    }

    // ---- the case

    public int letter(int code) {
        if (code < 32 || code > 126) {
            return OUTSIDE;
        }
        if (letters >= PAGE_ROOM) {
            return FULL;
        }
        page[letters] = code;
        letters++;
        return letters;
    }

    public int blank() {
        int had = letters;
        letters = 0;
        return had;
    }

    public int fault() {
        for (int place = 0; place < letters; place++) {
            if (!fits(place, page[place])) {
                return place;
            }
        }
        return letters;
    }

    public int open() {
        if (letters != CASE_LENGTH || fault() != CASE_LENGTH) {
            return STATE;
        }
        for (int f = 0; f < FEATURES; f++) {
            truth[f] = page[f] - 'a';
        }
        stress = page[CASE_LENGTH - 1] - '0';
        casesRead++;
        letters = 0;
        now.empty();
        keeps = false;
        return stress;
    }

    public int feature(int feature, int what) {
        if (!hasCase() || !isFeature(feature)) {
            return UNKNOWN;
        }
        switch (what) {
            case 0:
                return truth[feature];
            case 1:
                return now.most(feature);
            case 2:
                return now.mostAhead(feature);
            case 3:
                return now.rightBits(feature, truth[feature]);
            default:
                return OUTSIDE;
        }
    }

    // ---- witnesses

    public int witness(int kind) {
        if (!isKind(kind)) {
            return OUTSIDE;
        }
        if (!hasCase()) {
            return STATE;
        }
        if (now.size >= WITNESSES) {
            return FULL;
        }
        return now.come(kind);
    }

    public int about(int witness, int what) {
        if (!isWitness(witness)) {
            return UNKNOWN;
        }
        switch (what) {
            case 0:
                return now.kinds[witness];
            case 1:
                return now.rightOf(witness, truth);
            case 2:
                return now.rightBySight(witness, truth);
            case 3:
                return now.fromElsewhere(witness);
            case 4:
                return now.yielded[witness];
            default:
                return aboutFeature(witness, what);
        }
    }

    public int as(int witness, int kind) {
        if (!isWitness(witness)) {
            return UNKNOWN;
        }
        if (!isKind(kind)) {
            return OUTSIDE;
        }
        return now.kindOf(witness).isA(KINDS[kind]) ? witness : NONE;
    }

    public int saw(int witness, int feature, int thing, int sure) {
        if (!isWitness(witness) || !isFeature(feature)) {
            return UNKNOWN;
        }
        if (!isThing(thing) || sure < 0 || sure > MOST_SURE) {
            return OUTSIDE;
        }
        int at = place(witness, feature);
        int before = now.held[at];
        now.take(at, thing, sure, SAW_IT);
        return before;
    }

    // ---- questions

    public int ask(int witness, int feature) {
        if (!isWitness(witness) || !isFeature(feature)) {
            return UNKNOWN;
        }
        int at = place(witness, feature);
        if (now.held[at] != NOTHING) {
            now.surer(at);
        }
        return now.held[at];
    }

    public int lead(int witness, int feature, int thing, int word) {
        if (!isWitness(witness) || !isFeature(feature)) {
            return UNKNOWN;
        }
        if (!isThing(thing) || word < 1 || word > WORDS) {
            return OUTSIDE;
        }
        return now.push(witness, feature, thing, word + stress, BY_QUESTION);
    }

    public int talk(int a, int b) {
        if (!isWitness(a) || !isWitness(b) || a == b) {
            return UNKNOWN;
        }
        return now.meet(a, b);
    }

    public int night() {
        if (!hasCase()) {
            return STATE;
        }
        now.nights++;
        return now.sleep();
    }

    // ---- what would be

    public int word(int witness, int feature, int thing) {
        if (!isWitness(witness) || !isFeature(feature)) {
            return UNKNOWN;
        }
        if (!isThing(thing)) {
            return OUTSIDE;
        }
        for (int word = 1; word <= WORDS; word++) {
            if (now.wouldYield(witness, feature, thing, word + stress)) {
                return word;
            }
        }
        return NONE;
    }

    public int corridor(int what) {
        boolean asksPair = what >= 10 && what < 10 + PAIRS;
        if (what != 0 && !asksPair) {
            return OUTSIDE;
        }
        if (!hasCase() || corridorsDone >= MOST_CORRIDORS) {
            return STATE;
        }
        corridorsDone++;
        orders.search(now, truth);
        return asksPair ? orders.bestPair(what - 10) : orders.bestRight;
    }

    // ---- what is said

    public int say(int witness, int feature, int thing) {
        if (!isWitness(witness) || !isFeature(feature)) {
            return UNKNOWN;
        }
        if (!isThing(thing) && thing != NOTHING) {
            return OUTSIDE;
        }
        if (now.said >= MOST_SAID) {
            return FULL;
        }
        return now.addSaid(place(witness, feature), thing);
    }

    public int forget() {
        int had = now.said;
        now.said = 0;
        return had;
    }

    public int led(int witness, int what) {
        if (!isWitness(witness)) {
            return UNKNOWN;
        }
        switch (what) {
            case 0:
                return howManyLed(witness);
            case 1:
                return leastLed(witness);
            default:
                return OUTSIDE;
        }
    }

    public int weeks(int times, int seed, int what) {
        if (times < 1 || times > MOST_WEEKS || seed < 0 || what < 0 || what > 2) {
            return OUTSIDE;
        }
        if (now.size < 1) {
            return STATE;
        }
        tryWeeks(times, seed);
        switch (what) {
            case 0:
                return trialYields;
            case 1:
                return trial.rightWithAll(truth);
            default:
                return seedNow;
        }
    }

    // ---- what is told of all

    public int image() {
        if (!hasCase()) {
            return STATE;
        }
        kept.copy(now);
        keeps = true;
        return now.nights;
    }

    public int restore() {
        if (!keeps) {
            return STATE;
        }
        now.copy(kept);
        return now.nights;
    }

    public int count(int what) {
        switch (what) {
            case 0:
                return stress;
            case 1:
                return now.size;
            case 2:
                return now.rightWithAll(truth);
            case 3:
                return now.yieldedByAll();
            case 4:
                return now.nights;
            case 5:
                return now.said;
            case 6:
                return letters;
            case 7:
                return casesRead;
            case 8:
                return corridorsDone;
            default:
                return OUTSIDE;
        }
    }

    public long digest() {
        long h = 887;
        if (hasCase()) {
            h = digestFeatures(h);
        }
        for (int w = 0; w < now.size; w++) {
            h = digestWitness(h, w);
        }
        for (int i = 0; i < letters; i++) {
            h = 31 * h + page[i];
        }
        for (int what = 0; what <= 8; what++) {
            h = 31 * h + count(what);
        }
        return h;
    }

    // ---- helpers

    private long digestFeatures(long start) {
        long h = start;
        for (int f = 0; f < FEATURES; f++) {
            for (int what = 0; what <= 3; what++) {
                h = 31 * h + feature(f, what);
            }
        }
        return h;
    }

    private long digestWitness(long start, int witness) {
        long h = start;
        for (int what = 0; what <= 4; what++) {
            h = 31 * h + about(witness, what);
        }
        for (int row = 10; row <= 30; row += 10) {
            for (int f = 0; f < FEATURES; f++) {
                h = 31 * h + about(witness, row + f);
            }
        }
        h = 31 * h + led(witness, 0);
        return 31 * h + led(witness, 1);
    }

    private static boolean fits(int place, int code) {
        if (place < FEATURES) {
            return code >= 'a' && code < 'a' + THINGS;
        }
        if (place == FEATURES) {
            return code == ';';
        }
        return place == CASE_LENGTH - 1 && code >= '0' && code <= '0' + MOST_STRESS;
    }

    private boolean hasCase() {
        return casesRead > 0;
    }

    private boolean isWitness(int number) {
        return number >= 0 && number < now.size;
    }

    private static boolean isFeature(int number) {
        return number >= 0 && number < FEATURES;
    }

    private static boolean isThing(int number) {
        return number >= 0 && number < THINGS;
    }

    private static boolean isKind(int number) {
        return number >= 0 && number < KINDS.length;
    }

    private static int place(int witness, int feature) {
        return witness * FEATURES + feature;
    }

    private int aboutFeature(int witness, int what) {
        if (what < 10 || what >= 40 || !isFeature(what % 10)) {
            return OUTSIDE;
        }
        int at = place(witness, what % 10);
        if (what < 20) {
            return now.held[at];
        }
        return what < 30 ? now.sure[at] : now.from[at];
    }

    private int howManyLed(int witness) {
        int n = 0;
        for (int question = 0; question < FEATURES * THINGS * WORDS; question++) {
            if (explains(witness, question)) {
                n++;
            }
        }
        return n;
    }

    private int leastLed(int witness) {
        for (int question = 0; question < FEATURES * THINGS * WORDS; question++) {
            if (explains(witness, question)) {
                return question;
            }
        }
        return NONE;
    }

    private boolean explains(int witness, int question) {
        int feature = question / (THINGS * WORDS);
        int thing = question / WORDS % THINGS;
        int word = question % WORDS + 1;
        boolean yields = now.wouldYield(witness, feature, thing, word + stress);
        int at = place(witness, feature);
        return now.saidIsSo(witness, at, yields ? thing : now.held[at]);
    }

    private void tryWeeks(int times, int seed) {
        trial.copy(now);
        seedNow = seed;
        trialYields = 0;
        for (int i = 0; i < times; i++) {
            int witness = draw(trial.size);
            int feature = draw(FEATURES);
            int thing = draw(THINGS);
            int word = 1 + draw(WORDS);
            trialYields += trial.push(witness, feature, thing, word + stress, BY_QUESTION);
            trial.sleep();
        }
    }

    private int draw(int bound) {
        seedNow = (1103515245 * seedNow + 12345) & BELOW_2_TO_31;
        return bound < 1 ? 0 : seedNow / 65536 % bound;
    }

    /** How one of a kind takes a push and a night. */
    private enum Kind {
        WITNESS,
        CHILD {
            boolean yields(boolean empty, int sure, int force) {
                return true;
            }
        },
        OLD {
            boolean yields(boolean empty, int sure, int force) {
                return force + 2 > sure;
            }

            boolean fades() {
                return true;
            }
        },
        STUBBORN {
            boolean yields(boolean empty, int sure, int force) {
                return empty && force > 5;
            }
        },
        PARROT {
            boolean yields(boolean empty, int sure, int force) {
                return true;
            }

            int sureAfter(int force) {
                return MOST_SURE;
            }
        };

        boolean yields(boolean empty, int sure, int force) {
            return force > sure;
        }

        int sureAfter(int force) {
            return Math.min(MOST_SURE, force);
        }

        boolean fades() {
            return false;
        }

        boolean isA(Kind other) {
            return other == this || other == WITNESS || (this == PARROT && other == CHILD);
        }
    }

    /** All the witnesses at one time: an object of its own, so that it can be kept and tried on. */
    private static final class Hall {
        final int[] kinds = new int[WITNESSES];
        final int[] yielded = new int[WITNESSES];
        int size;

        final int[] held = new int[WITNESSES * FEATURES];
        final int[] sure = new int[WITNESSES * FEATURES];
        final int[] from = new int[WITNESSES * FEATURES];
        int nights;

        final int[] saidPlace = new int[MOST_SAID];
        final int[] saidThing = new int[MOST_SAID];
        int said;

        void empty() {
            size = 0;
            nights = 0;
            said = 0;
        }

        void copy(Hall other) {
            copyWitnesses(other);
            nights = other.nights;
            said = other.said;
            System.arraycopy(other.saidPlace, 0, saidPlace, 0, MOST_SAID);
            System.arraycopy(other.saidThing, 0, saidThing, 0, MOST_SAID);
        }

        void copyWitnesses(Hall other) {
            size = other.size;
            System.arraycopy(other.kinds, 0, kinds, 0, WITNESSES);
            System.arraycopy(other.yielded, 0, yielded, 0, WITNESSES);
            System.arraycopy(other.held, 0, held, 0, WITNESSES * FEATURES);
            System.arraycopy(other.sure, 0, sure, 0, WITNESSES * FEATURES);
            System.arraycopy(other.from, 0, from, 0, WITNESSES * FEATURES);
        }

        int come(int kind) {
            int number = size;
            kinds[number] = kind;
            yielded[number] = 0;
            for (int f = 0; f < FEATURES; f++) {
                take(place(number, f), NOTHING, 0, SAW_IT);
            }
            size++;
            return number;
        }

        Kind kindOf(int witness) {
            return KINDS[kinds[witness]];
        }

        void take(int at, int thing, int howSure, int source) {
            held[at] = thing;
            sure[at] = howSure;
            from[at] = source;
        }

        void surer(int at) {
            sure[at] = Math.min(MOST_SURE, sure[at] + 1);
        }

        boolean wouldYield(int witness, int feature, int thing, int force) {
            int at = place(witness, feature);
            return held[at] != thing
                    && kindOf(witness).yields(held[at] == NOTHING, sure[at], force);
        }

        int push(int witness, int feature, int thing, int force, int source) {
            int at = place(witness, feature);
            if (held[at] == thing) {
                surer(at);
                return 0;
            }
            Kind kind = kindOf(witness);
            if (!kind.yields(held[at] == NOTHING, sure[at], force)) {
                return 0;
            }
            take(at, thing, kind.sureAfter(force), source);
            yielded[witness]++;
            return 1;
        }

        int meet(int a, int b) {
            int yields = 0;
            for (int f = 0; f < FEATURES; f++) {
                int ahead = sure[place(a, f)] - sure[place(b, f)];
                if (ahead > 0) {
                    yields += tell(a, b, f);
                } else if (ahead < 0) {
                    yields += tell(b, a, f);
                }
            }
            return yields;
        }

        private int tell(int teller, int hearer, int feature) {
            int at = place(teller, feature);
            if (held[at] == NOTHING) {
                return 0;
            }
            return push(hearer, feature, held[at], sure[at], FIRST_WITNESS + teller);
        }

        int sleep() {
            int lost = 0;
            for (int w = 0; w < size; w++) {
                if (kindOf(w).fades()) {
                    lost += fade(w);
                }
            }
            return lost;
        }

        private int fade(int witness) {
            int lost = 0;
            for (int f = 0; f < FEATURES; f++) {
                int at = place(witness, f);
                sure[at] = Math.max(0, sure[at] - 1);
                if (sure[at] == 0 && held[at] != NOTHING) {
                    take(at, NOTHING, 0, SAW_IT);
                    lost++;
                }
            }
            return lost;
        }

        /** How sure all are together who hold the thing; NONE tells that nobody does. */
        private int sureTogether(int feature, int thing) {
            int sum = NONE;
            for (int w = 0; w < size; w++) {
                int at = place(w, feature);
                if (held[at] == thing) {
                    sum = Math.max(0, sum) + sure[at];
                }
            }
            return sum;
        }

        int most(int feature) {
            int best = NOTHING;
            int bestSum = NONE;
            for (int thing = 0; thing < THINGS; thing++) {
                int sum = sureTogether(feature, thing);
                if (sum > bestSum) {
                    bestSum = sum;
                    best = thing;
                }
            }
            return best;
        }

        int mostAhead(int feature) {
            int best = most(feature);
            int second = 0;
            for (int thing = 0; thing < THINGS; thing++) {
                if (thing != best) {
                    second = Math.max(second, sureTogether(feature, thing));
                }
            }
            return best == NOTHING ? 0 : sureTogether(feature, best) - second;
        }

        int rightBits(int feature, int so) {
            int bits = 0;
            for (int w = 0; w < size; w++) {
                if (held[place(w, feature)] == so) {
                    bits |= 1 << w;
                }
            }
            return bits;
        }

        int rightOf(int witness, int[] truth) {
            int n = 0;
            for (int f = 0; f < FEATURES; f++) {
                if (held[place(witness, f)] == truth[f]) {
                    n++;
                }
            }
            return n;
        }

        int rightBySight(int witness, int[] truth) {
            int n = 0;
            for (int f = 0; f < FEATURES; f++) {
                int at = place(witness, f);
                if (held[at] == truth[f] && from[at] == SAW_IT) {
                    n++;
                }
            }
            return n;
        }

        int fromElsewhere(int witness) {
            int n = 0;
            for (int f = 0; f < FEATURES; f++) {
                if (from[place(witness, f)] != SAW_IT) {
                    n++;
                }
            }
            return n;
        }

        int rightWithAll(int[] truth) {
            int n = 0;
            for (int w = 0; w < size; w++) {
                n += rightOf(w, truth);
            }
            return n;
        }

        int yieldedByAll() {
            int n = 0;
            for (int w = 0; w < size; w++) {
                n += yielded[w];
            }
            return n;
        }

        int addSaid(int at, int thing) {
            saidPlace[said] = at;
            saidThing[said] = thing;
            said++;
            return said;
        }

        /** Whether all that is said of one is so, if he held something else at one place. */
        boolean saidIsSo(int witness, int changedAt, int changedTo) {
            for (int i = 0; i < said; i++) {
                int at = saidPlace[i];
                int holds = at == changedAt ? changedTo : held[at];
                if (at / FEATURES == witness && holds != saidThing[i]) {
                    return false;
                }
            }
            return true;
        }
    }

    /** The search for the best order of all pairs; its halls are made once and used again. */
    private static final class Corridor {
        private final Hall[] halls = new Hall[PAIRS + 1];
        private final int[] pairs = new int[PAIRS];
        private int pairCount;
        private final int[] order = new int[PAIRS];
        private final int[] bestOrder = new int[PAIRS];
        private int bestRight;

        Corridor() {
            for (int i = 0; i <= PAIRS; i++) {
                halls[i] = new Hall();
            }
        }

        void search(Hall start, int[] truth) {
            listPairs(start.size);
            bestRight = NONE;
            halls[0].copyWitnesses(start);
            tryFrom(0, 0, truth);
        }

        int bestPair(int index) {
            return index >= 0 && index < pairCount ? bestOrder[index] : NONE;
        }

        private void listPairs(int size) {
            pairCount = 0;
            for (int a = 0; a < size; a++) {
                for (int b = a + 1; b < size; b++) {
                    pairs[pairCount] = WITNESSES * a + b;
                    pairCount++;
                }
            }
        }

        private void tryFrom(int depth, int used, int[] truth) {
            if (depth >= pairCount) {
                keepIfBetter(halls[depth].rightWithAll(truth));
                return;
            }
            for (int i = 0; i < pairCount; i++) {
                if ((used >> i & 1) == 0) {
                    order[depth] = pairs[i];
                    halls[depth + 1].copyWitnesses(halls[depth]);
                    halls[depth + 1].meet(pairs[i] / WITNESSES, pairs[i] % WITNESSES);
                    tryFrom(depth + 1, used | 1 << i, truth);
                }
            }
        }

        /** Orders come first by numbers, so of like ones the one that is kept is the first. */
        private void keepIfBetter(int right) {
            if (right > bestRight) {
                bestRight = right;
                System.arraycopy(order, 0, bestOrder, 0, PAIRS);
            }
        }
    }
}
