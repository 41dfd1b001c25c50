import java.util.function.Supplier;

/** The edges that the document names for what would be: promises 15 and 16. */
public final class WouldBeEdgesTest extends Checks {

    // ---- Promise 15: "NONE: he would not by any, or HOLDS it. UNKNOWN: witness, feature; OUTSIDE: thing."

    static void p15WitnessTooSmallOrTooLarge() {
        refusedAll("word(.., 0, 0)", busy(), UNKNOWN, (o, n) -> o.word(n, 0, 0), -1, 2, 4, MIN, MAX);
    }

    static void p15FeatureTooSmallOrTooLarge() {
        refusedAll("word(0, .., 0)", busy(), UNKNOWN, (o, n) -> o.word(0, n, 0), -1, 6, MIN, MAX);
        refusedAll("word(1, .., 0)", busy(), UNKNOWN, (o, n) -> o.word(1, n, 0), -1, 6, MIN, MAX);
    }

    static void p15ThingTooSmallOrTooLarge() {
        refusedAll("word(1, 0, ..)", busy(), OUTSIDE, (o, n) -> o.word(1, 0, n), -1, 4, 5, MIN, MAX);
    }

    static void p15UnknownComesBeforeOutside() {
        refusedAll("word(.., 0, 4)", busy(), UNKNOWN, (o, n) -> o.word(n, 0, 4), -1, 2);
        refusedAll("word(0, .., -1)", busy(), UNKNOWN, (o, n) -> o.word(0, n, -1), -1, 6);
    }

    private static void wordIs(int kind, int sure, int stress, int want) {
        LedWitness x = opened("abcdab;" + stress, kind);
        x.saw(0, 4, 2, sure);
        refused("word of kind " + kind + ", sure by " + sure + ", stress " + stress,
                x, want, o -> o.word(0, 4, 3));
    }

    /** "the least word by which he would YIELD now; none" */
    static void p15OfAWitness() {
        for (int stress = 0; stress <= 4; stress++) {
            for (int sure = 0; sure <= 9; sure++) {
                int least = Math.max(1, sure + 1 - stress);
                wordIs(WITNESS, sure, stress, least <= 5 ? least : NONE);
            }
        }
    }

    static void p15OfAnOldOne() {
        for (int stress = 0; stress <= 4; stress++) {
            for (int sure = 0; sure <= 9; sure++) {
                int least = Math.max(1, sure - 1 - stress);
                wordIs(OLD, sure, stress, least <= 5 ? least : NONE);
            }
        }
    }

    static void p15OfAChildAndAParrot() {
        for (int sure = 0; sure <= 9; sure += 9) {
            wordIs(CHILD, sure, 0, 1);
            wordIs(PARROT, sure, 0, 1);
        }
    }

    static void p15OfAStubbornOne() {
        wordIs(STUBBORN, 0, 4, NONE);
        int[] wants = {NONE, 5, 4, 3, 2};
        for (int stress = 0; stress <= 4; stress++) {
            LedWitness x = opened("abcdab;" + stress, STUBBORN);
            refused("word of one who holds nothing", x, wants[stress], o -> o.word(0, 0, 0));
        }
    }

    /** "or HOLDS it" */
    static void p15HeldAlready() {
        for (int kind = 0; kind < 5; kind++) {
            LedWitness x = opened("abcdab;4", kind);
            x.saw(0, 0, 0, 0);
            x.saw(0, 5, 3, 0);
            refused("word(0, 0, 0)", x, NONE, o -> o.word(0, 0, 0));
            refused("word(0, 5, 3)", x, NONE, o -> o.word(0, 5, 3));
        }
    }

    // ---- Promise 16: "what = 0 how many, 10 to 15 the so-manieth pair (NONE: there is none)."

    static void p16WhatTooSmallOrTooLarge() {
        LedWitness x = busy();
        refusedAll("corridor", x, OUTSIDE, LedWitness::corridor, -1, 1, 5, 9, 16, 20, MIN, MAX);
        due("count(8)", x.count(8), 0);
    }

    static void p16NoCase() {
        LedWitness x = typed("abcdab;2");
        refusedAll("corridor", x, STATE, LedWitness::corridor, 0, 10, 15);
        due("count(8)", x.count(8), 0);
    }

    static void p16OutsideComesBeforeState() {
        refusedAll("corridor without a case", new LedWitness(), OUTSIDE, LedWitness::corridor, -1, 1, 9, 16);
        LedWitness x = opened("abcdab;2");
        for (int n = 0; n < 20; n++) {
            x.corridor(0);
        }
        refusedAll("corridor done 20 times", x, OUTSIDE, LedWitness::corridor, -1, 1, 9, 16);
    }

    /** "or corridor() was done 20 times" */
    static void p16TwentyAreAllowed() {
        LedWitness x = opened("abcdab;2", CHILD, OLD);
        for (int n = 1; n <= 20; n++) {
            int what = n % 2 == 0 ? 0 : 9 + n / 2 % 6 + 1;
            due("corridor(" + what + ")", x.corridor(what), what == 0 ? 0 : what == 10 ? 1 : NONE);
            due("count(8)", x.count(8), n);
        }
        refusedAll("corridor", x, STATE, LedWitness::corridor, 0, 10, 15);
        due("count(8)", x.count(8), 20);
    }

    static void p16RefusedOnesAreNotDone() {
        LedWitness x = new LedWitness();
        for (int n = 0; n < 30; n++) {
            x.corridor(0);
            x.corridor(1);
        }
        type(x, "abcdab;2");
        x.open();
        due("corridor(0)", x.corridor(0), 0);
        due("count(8)", x.count(8), 1);
    }

    private static final int[][] FIRST_ORDERS = {{}, {}, {1}, {1, 2, 6}, {1, 2, 3, 6, 7, 11}};

    /** "of like ones the first by numbers", "NONE: there is none" */
    static void p16PairsOfSoMany() {
        for (int people = 0; people <= 4; people++) {
            LedWitness x = opened("abcdab;2", new int[people]);
            due(people + ": corridor(0)", x.corridor(0), 0);
            for (int i = 0; i < 6; i++) {
                int[] order = FIRST_ORDERS[people];
                due(people + ": corridor(" + (10 + i) + ")", x.corridor(10 + i), i < order.length ? order[i] : NONE);
            }
        }
    }

    /** "most FEATURES are RIGHT with all together in the end": also if nobody talks. */
    static void p16OneAlone() {
        LedWitness x = opened("abcdab;2", WITNESS);
        for (int f = 0; f < 6; f++) {
            x.saw(0, f, x.feature(f, 0), 0);
        }
        due("corridor(0)", x.corridor(0), 6);
        due("corridor(10)", x.corridor(10), NONE);
    }

    /** "how many": all of them. */
    static void p16AllRight() {
        LedWitness x = opened("abcdab;2", WITNESS, CHILD, OLD, PARROT);
        for (int f = 0; f < 6; f++) {
            x.saw(f % 4, f, x.feature(f, 0), 9);
        }
        due("corridor(0)", x.corridor(0), 24);
    }

    /** As CORRIDOR says it, by really talking, each order with witnesses of its own. */
    private static void corridorIsAsTalked(String name, int people, Supplier<LedWitness> made) {
        int pairs = people * (people - 1) / 2;
        int[] order = new int[pairs];
        int[] best = new int[pairs + 1];
        best[pairs] = -1;
        everyOrder(order, 0, people, made, best);
        LedWitness x = made.get();
        long before = x.digest();
        due(name + ": corridor(0)", x.corridor(0), best[pairs]);
        for (int i = 0; i < pairs; i++) {
            due(name + ": corridor(" + (10 + i) + ")", x.corridor(10 + i), best[i]);
        }
        long done = x.digest() - before;
        due(name + ": nothing but count(8) changes", done, pairs + 1);
    }

    private static void everyOrder(int[] order, int at, int people, Supplier<LedWitness> made, int[] best) {
        if (at == order.length) {
            LedWitness x = made.get();
            for (int pair : order) {
                x.talk(pair / 4, pair % 4);
            }
            if (x.count(2) > best[order.length]) {
                System.arraycopy(order, 0, best, 0, order.length);
                best[order.length] = x.count(2);
            }
            return;
        }
        for (int pair = 1; pair <= 11; pair++) {
            boolean fits = pair / 4 < pair % 4 && pair % 4 < people;
            for (int i = 0; i < at; i++) {
                fits &= order[i] != pair;
            }
            if (fits) {
                order[at] = pair;
                everyOrder(order, at + 1, people, made, best);
            }
        }
    }

    static void p16AsTalked() {
        corridorIsAsTalked("three, the stubborn one first", 3, () -> {
            LedWitness x = opened("aaaaaa;0", WITNESS, WITNESS, STUBBORN);
            x.saw(0, 0, 0, 6);
            x.saw(1, 0, 1, 8);
            return x;
        });
        corridorIsAsTalked("four, the last pair first", 4, () -> {
            LedWitness x = opened("aaaaaa;0", WITNESS, WITNESS, OLD, STUBBORN);
            x.saw(2, 0, 0, 6);
            x.saw(1, 0, 1, 7);
            x.saw(0, 0, 2, 9);
            return x;
        });
        corridorIsAsTalked("four, a parrot is surest", 4, () -> {
            LedWitness x = opened("abcdab;0", PARROT, WITNESS, CHILD, OLD);
            x.saw(1, 0, 0, 3);
            x.saw(2, 0, 1, 5);
            x.saw(3, 1, 1, 7);
            x.saw(0, 1, 2, 2);
            x.saw(2, 5, 3, 8);
            x.saw(1, 5, 1, 4);
            return x;
        });
    }

    /**
     * "in the order by which most ..": 3 keeps what he hears first, so 11 comes ahead of 2 and 3; that
     * 0 and 1 talk ahead of it harms nothing, and is the first by numbers.
     */
    static void p16LaterOrderIsBetter() {
        LedWitness x = opened("aaaaaa;0", WITNESS, WITNESS, OLD, STUBBORN);
        x.saw(2, 0, 0, 6);
        x.saw(0, 0, 1, 9);
        int[] want = {1, 11, 2, 3, 6, 7};
        due("corridor(0)", x.corridor(0), 1);
        for (int i = 0; i < 6; i++) {
            due("corridor(" + (10 + i) + ")", x.corridor(10 + i), want[i]);
        }
    }

    public static void main(String[] args) {
        runAll(WouldBeEdgesTest.class);
    }
}
