import java.util.function.Supplier;

/** The edges that the document names for what is said and for weeks: promises 17 to 20. */
public final class SaidEdgesTest extends Checks {

    // ---- Promise 17: "UNKNOWN: witness, feature; OUTSIDE: thing (0 to 4); FULL."

    static void p17WitnessTooSmallOrTooLarge() {
        refusedAll("say(.., 0, 0)", busy(), UNKNOWN, (o, n) -> o.say(n, 0, 0), -1, 2, 4, MIN, MAX);
    }

    static void p17FeatureTooSmallOrTooLarge() {
        refusedAll("say(0, .., 0)", busy(), UNKNOWN, (o, n) -> o.say(0, n, 0), -1, 6, MIN, MAX);
        refusedAll("say(1, .., 0)", busy(), UNKNOWN, (o, n) -> o.say(1, n, 0), -1, 6, MIN, MAX);
    }

    static void p17ThingTooSmallOrTooLarge() {
        refusedAll("say(0, 0, ..)", busy(), OUTSIDE, (o, n) -> o.say(0, 0, n), -1, 5, MIN, MAX);
    }

    static void p17EachThing() {
        LedWitness x = opened("abcdab;2", CHILD);
        for (int thing = 0; thing <= 4; thing++) {
            due("say(0, 5, " + thing + ")", x.say(0, 5, thing), thing + 1);
        }
    }

    /** "SAID (6 at most)" */
    static void p17SixAreAllowed() {
        LedWitness x = opened("abcdab;2", CHILD, OLD);
        for (int n = 1; n <= 6; n++) {
            due("say " + n, x.say(n % 2, n - 1, n - 1 > 4 ? 4 : n - 1), n);
            due("count(5)", x.count(5), n);
        }
    }

    /** "It is SAID: how much is": the same thing again is one more, and fills it up as well. */
    static void p17TheSameAgain() {
        LedWitness x = opened("abcdab;2", CHILD, OLD);
        for (int n = 1; n <= 6; n++) {
            due("say " + n, x.say(1, 2, 3), n);
        }
        refused("say 7", x, FULL, o -> o.say(1, 2, 3));
        due("led(1, 0)", x.led(1, 0), 5);
        due("forget()", x.forget(), 6);
    }

    private static LedWitness allSaid() {
        LedWitness x = opened("abcdab;2", CHILD, OLD);
        for (int n = 0; n < 6; n++) {
            x.say(0, n, 4);
        }
        return x;
    }

    static void p17SeventhIsFull() {
        LedWitness x = allSaid();
        refusedAll("say(0, 0, ..)", x, FULL, (o, n) -> o.say(0, 0, n), 0, 3, 4);
        refusedAll("say(1, .., 0)", x, FULL, (o, n) -> o.say(1, n, 0), 0, 5);
        due("count(5)", x.count(5), 6);
    }

    static void p17FullComesLast() {
        LedWitness x = allSaid();
        refusedAll("say(.., 0, 0)", x, UNKNOWN, (o, n) -> o.say(n, 0, 0), -1, 2);
        refusedAll("say(0, .., 5)", x, UNKNOWN, (o, n) -> o.say(0, n, 5), -1, 6);
        refusedAll("say(0, 0, ..)", x, OUTSIDE, (o, n) -> o.say(0, 0, n), -1, 5);
    }

    static void p17UnknownComesBeforeOutside() {
        refusedAll("say(.., 0, 5)", busy(), UNKNOWN, (o, n) -> o.say(n, 0, 5), -1, 2);
        refusedAll("say(0, .., -1)", busy(), UNKNOWN, (o, n) -> o.say(0, n, -1), -1, 6);
    }

    static void p17RoomAgainBehindForget() {
        LedWitness x = allSaid();
        x.forget();
        due("say()", x.say(1, 0, 0), 1);
    }

    // ---- Promise 18: "Nothing is SAID any more: how much was."

    static void p18NothingWas() {
        due("forget() without a case", new LedWitness().forget(), 0);
        LedWitness x = opened("abcdab;2", CHILD);
        due("forget()", x.forget(), 0);
    }

    static void p18AllOfSix() {
        LedWitness x = allSaid();
        due("forget()", x.forget(), 6);
        due("count(5)", x.count(5), 0);
        due("forget() again", x.forget(), 0);
        due("led(0, 0)", x.led(0, 0), 120);
    }

    static void p18TheImageStays() {
        LedWitness x = allSaid();
        x.image();
        x.forget();
        x.say(1, 0, 0);
        x.restore();
        due("forget() behind restore()", x.forget(), 6);
    }

    // ---- Promise 19: "what = 0 how many, 1 the least (NONE). UNKNOWN; OUTSIDE."

    static void p19WitnessTooSmallOrTooLarge() {
        refusedAll("led(.., 0)", busy(), UNKNOWN, (o, n) -> o.led(n, 0), -1, 2, 4, MIN, MAX);
    }

    static void p19WhatTooSmallOrTooLarge() {
        refusedAll("led(0, ..)", busy(), OUTSIDE, (o, n) -> o.led(0, n), -1, 2, 10, MIN, MAX);
    }

    static void p19UnknownComesBeforeOutside() {
        refusedAll("led(.., 2)", busy(), UNKNOWN, (o, n) -> o.led(n, 2), -1, 2);
    }

    private static void ledIs(String when, LedWitness x, int witness, int many, int least) {
        refused(when + ": led(" + witness + ", 0)", x, many, o -> o.led(witness, 0));
        refused(when + ": led(" + witness + ", 1)", x, least, o -> o.led(witness, 1));
    }

    static void p19NothingIsSaid() {
        for (int kind = 0; kind < 5; kind++) {
            ledIs("kind " + kind, opened("abcdab;0", kind), 0, 120, 0);
        }
    }

    /** "all that is SAID of him": what is said of another one is not. */
    static void p19SaidOfAnother() {
        LedWitness x = opened("abcdab;0", CHILD, CHILD, CHILD);
        x.say(0, 0, 0);
        x.say(2, 0, 0);
        ledIs("said of others", x, 1, 120, 0);
        ledIs("said of him", x, 2, 5, 0);
    }

    static void p19NoQuestion() {
        LedWitness x = opened("abcdab;0", CHILD);
        x.say(0, 0, 0);
        x.say(0, 1, 0);
        ledIs("two that are not so", x, 0, 0, NONE);
        x.forget();
        x.say(0, 5, 2);
        x.say(0, 5, 3);
        ledIs("two of one feature", x, 0, 0, NONE);
    }

    /** "20 times the FEATURE, 5 times what he was LED to, and the word less 1, together" */
    static void p19EachQuestionByItself() {
        for (int question = 0; question < 120; question++) {
            int feature = question / 20;
            int thing = question / 5 % 4;
            LedWitness x = opened("abcdab;4", WITNESS);
            x.saw(0, feature, (thing + 1) % 4, question % 5 + 4);
            x.say(0, feature, thing);
            ledIs("question " + question, x, 0, 5 - question % 5, question);
        }
    }

    static void p19LastQuestion() {
        LedWitness x = opened("abcdab;4", WITNESS);
        x.saw(0, 5, 0, 8);
        x.say(0, 5, 3);
        ledIs("the last one", x, 0, 1, 119);
        x.ask(0, 5);
        ledIs("not even that", x, 0, 0, NONE);
    }

    /** That one HOLDS nothing (4) can be SAID, too. */
    static void p19NothingHeld() {
        LedWitness x = opened("abcdab;4", WITNESS);
        x.say(0, 0, 4);
        ledIs("any but of that feature", x, 0, 100, 20);
        x.saw(0, 0, 1, 0);
        ledIs("no question takes it away", x, 0, 0, NONE);
    }

    /** All that is SAID is so now, but each question puts something in. */
    static void p19SixTimesNothing() {
        for (int kind = 0; kind < 5; kind++) {
            for (int w = 0; w < 4; w++) {
                LedWitness x = opened("abcdab;4", kind, kind, kind, kind);
                for (int f = 0; f < 6; f++) {
                    x.say(w, f, 4);
                }
                boolean stays = kind == STUBBORN;
                ledIs("kind " + kind, x, w, stays ? 24 : 0, stays ? 0 : NONE);
            }
        }
    }

    /** "would be so": also if he does not yield, or holds it already. */
    static void p19SoAnyway() {
        LedWitness x = opened("abcdab;0", WITNESS, STUBBORN);
        x.saw(0, 2, 1, 4);
        x.say(0, 2, 1);
        ledIs("all but those by 5 to another thing", x, 0, 117, 0);
        x.saw(1, 2, 1, 0);
        x.say(1, 2, 1);
        ledIs("a stubborn one stays", x, 1, 120, 0);
    }

    private static void ledIsAsTried(String name, int[][] said, Supplier<LedWitness> made) {
        int many = 0;
        int least = NONE;
        for (int question = 119; question >= 0; question--) {
            LedWitness x = made.get();
            x.lead(0, question / 20, question / 5 % 4, question % 5 + 1);
            boolean so = true;
            for (int[] s : said) {
                so &= x.about(0, 10 + s[0]) == s[1];
            }
            many += so ? 1 : 0;
            least = so ? question : least;
        }
        LedWitness x = made.get();
        for (int[] s : said) {
            x.say(0, s[0], s[1]);
        }
        ledIs(name, x, 0, many, least);
    }

    static void p19AsTried() {
        int[][][] saids = {
            {{0, 0}}, {{0, 1}}, {{0, 4}}, {{1, 3}, {0, 2}}, {{5, 4}, {4, 0}}, {{5, 3}, {0, 2}},
            {{0, 2}, {1, 1}, {2, 4}, {3, 4}, {4, 4}, {5, 4}}, {{0, 2}, {0, 2}},
        };
        for (int kind = 0; kind < 5; kind++) {
            int of = kind;
            for (int i = 0; i < saids.length; i++) {
                ledIsAsTried("kind " + kind + ", " + i, saids[i], () -> {
                    LedWitness x = opened("abcdab;3", of);
                    x.saw(0, 0, 2, 6);
                    x.saw(0, 1, 1, 9);
                    return x;
                });
            }
        }
    }

    // ---- Promise 20: "OUTSIDE: times (1 to 60), seed (0 at least), what; STATE: there are no WITNESSES."

    static void p20TimesTooSmallOrTooLarge() {
        refusedAll("weeks(.., 0, 0)", busy(), OUTSIDE, (o, n) -> o.weeks(n, 0, 0), 0, 61, -1, MIN, MAX);
    }

    static void p20SeedTooSmall() {
        refusedAll("weeks(1, .., 0)", busy(), OUTSIDE, (o, n) -> o.weeks(1, n, 0), -1, -2, MIN);
    }

    static void p20WhatTooSmallOrTooLarge() {
        refusedAll("weeks(1, 0, ..)", busy(), OUTSIDE, (o, n) -> o.weeks(1, 0, n), -1, 3, 10, MIN, MAX);
    }

    static void p20NoWitnesses() {
        for (LedWitness x : new LedWitness[] {new LedWitness(), opened("abcdab;2")}) {
            refusedAll("weeks(1, 0, ..)", x, STATE, (o, n) -> o.weeks(1, 0, n), 0, 1, 2);
            refusedAll("weeks(60, .., 0)", x, STATE, (o, n) -> o.weeks(60, n, 0), 0, MAX);
        }
    }

    static void p20OutsideComesBeforeState() {
        for (LedWitness x : new LedWitness[] {new LedWitness(), opened("abcdab;2")}) {
            refusedAll("weeks(.., 0, 0)", x, OUTSIDE, (o, n) -> o.weeks(n, 0, 0), 0, 61);
            refusedAll("weeks(1, .., 0)", x, OUTSIDE, (o, n) -> o.weeks(1, n, 0), -1, MIN);
            refusedAll("weeks(1, 0, ..)", x, OUTSIDE, (o, n) -> o.weeks(1, 0, n), -1, 3);
        }
    }

    /** As WEEKS says it, by really leading witnesses of the same past, night by night. */
    private static void weeksAreAsLived(String name, int times, int seed, Supplier<LedWitness> made) {
        LedWitness lived = made.get();
        int before = lived.count(3);
        int people = lived.count(1);
        int[] bounds = {people, 6, 4, 5};
        int[] drawn = new int[4];
        long next = seed;
        for (int i = 0; i < times; i++) {
            for (int k = 0; k < 4; k++) {
                next = nextSeed(next);
                drawn[k] = (int) (next / 65536 % bounds[k]);
            }
            lived.lead(drawn[0], drawn[1], drawn[2], drawn[3] + 1);
            lived.night();
        }
        String call = name + ": weeks(" + times + ", " + seed + ", ";
        LedWitness x = made.get();
        refused(call + "0)", x, lived.count(3) - before, o -> o.weeks(times, seed, 0));
        refused(call + "1)", x, lived.count(2), o -> o.weeks(times, seed, 1));
        refused(call + "2)", x, (int) next, o -> o.weeks(times, seed, 2));
    }

    private static LedWitness past(int stress, int... kinds) {
        LedWitness x = opened("abcdab;" + stress, kinds);
        for (int w = 0; w < kinds.length; w++) {
            for (int f = 0; f < 6; f++) {
                x.saw(w, f, (w + f) % 4, (3 * w + 2 * f) % 10);
            }
            x.lead(w, w, 0, 5);
            x.lead(w, w + 1, 1, 5);
        }
        x.night();
        return x;
    }

    /** "times (1 to 60)", "seed (0 at least)": the least and the greatest. */
    static void p20LeastAndGreatest() {
        int[] seeds = {0, 1, 65535, 65536, MAX - 1, MAX};
        for (int seed : seeds) {
            for (int times : new int[] {1, 2, 59, 60}) {
                weeksAreAsLived("four", times, seed, () -> past(1, WITNESS, CHILD, OLD, PARROT));
            }
        }
    }

    /** "one by a DRAW of how many there are" */
    static void p20SoMany() {
        weeksAreAsLived("one", 40, 4711, () -> past(0, OLD));
        weeksAreAsLived("two", 40, 4711, () -> past(1, OLD, WITNESS));
        weeksAreAsLived("three", 40, 4711, () -> past(2, OLD, WITNESS, CHILD));
        weeksAreAsLived("four", 40, 4711, () -> past(4, OLD, WITNESS, STUBBORN, OLD));
        weeksAreAsLived("four old ones", 60, 99, () -> past(0, OLD, OLD, OLD, OLD));
    }

    /** "the next SEED each time: 1103515245 times it and 12345, its rest by 2 to the 31" */
    static void p20SeedWraps() {
        LedWitness x = opened("abcdab;0", CHILD);
        for (int seed : new int[] {0, 1, 2, 4, 1 << 30, MAX}) {
            long next = nextSeed(nextSeed(nextSeed(nextSeed(seed))));
            due("weeks(1, " + seed + ", 2)", x.weeks(1, seed, 2), next);
            due("weeks(1, " + seed + ", 2) is 0 at least", next >= 0 ? 1 : 0, 1);
        }
    }

    /** "how often one YIELDED": in those weeks, not before. */
    static void p20NotWhatWasBefore() {
        LedWitness x = opened("abcdab;0", CHILD);
        for (int n = 0; n < 50; n++) {
            x.lead(0, 0, n % 2, 1);
        }
        due("yielded before", x.count(3), 50);
        due("one week", x.weeks(1, 0, 0) <= 1 ? 1 : 0, 1);
    }

    /** The same WEEKS are the same again, whatever was tried in between. */
    static void p20Again() {
        LedWitness x = past(0, CHILD, OLD);
        int[] first = {x.weeks(60, 5, 0), x.weeks(60, 5, 1), x.weeks(60, 5, 2)};
        for (int what = 0; what <= 2; what++) {
            x.weeks(17, 3, what);
            due("weeks(60, 5, " + what + ")", x.weeks(60, 5, what), first[what]);
        }
    }

    static void p20AsTheyWouldBe() {
        LedWitness x = past(3, OLD, PARROT, CHILD, WITNESS);
        x.image();
        x.say(0, 0, 0);
        long before = x.digest();
        for (int n = 1; n <= 60; n += 7) {
            x.weeks(n, n, n % 3);
        }
        due("digest()", x.digest(), before);
        due("restore()", x.restore(), 1);
        due("count(5)", x.count(5), 0);
    }

    public static void main(String[] args) {
        runAll(SaidEdgesTest.class);
    }
}
