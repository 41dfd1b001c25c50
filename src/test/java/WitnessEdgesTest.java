/** The edges that the document names for witnesses and what they hold: promises 7 to 10. */
public final class WitnessEdgesTest extends Checks {

    // ---- Promise 7: "A WITNESS: his number. OUTSIDE: kind; STATE: no CASE; FULL."

    static void p7KindTooSmallOrTooLarge() {
        refusedAll("witness", busy(), OUTSIDE, LedWitness::witness, -1, 5, MIN, MAX);
    }

    static void p7NoCase() {
        refusedAll("witness", new LedWitness(), STATE, LedWitness::witness, 0, 1, 2, 3, 4);
    }

    static void p7OutsideComesBeforeState() {
        refusedAll("witness", new LedWitness(), OUTSIDE, LedWitness::witness, -1, 5);
    }

    /** "WITNESSES (4 at most, numbered)" */
    static void p7FourAreAllowed() {
        for (int kind = 0; kind < 5; kind++) {
            LedWitness x = opened("abcdab;2", kind, kind, kind, kind);
            due("how many", x.count(1), 4);
            due("kind of the last", x.about(3, 0), kind);
        }
    }

    static void p7FifthIsFull() {
        LedWitness x = opened("abcdab;2", PARROT, STUBBORN, OLD, CHILD);
        refusedAll("witness", x, FULL, LedWitness::witness, 0, 1, 2, 3, 4);
        due("about(4, 0)", x.about(4, 0), UNKNOWN);
    }

    static void p7OutsideComesBeforeFull() {
        LedWitness x = opened("abcdab;2", PARROT, STUBBORN, OLD, CHILD);
        refusedAll("witness", x, OUTSIDE, LedWitness::witness, -1, 5);
    }

    /** "at first he HOLDS nothing, is SURE by 0, has it FROM 0" */
    static void p7AtFirst() {
        for (int kind = 0; kind < 5; kind++) {
            LedWitness x = opened("aaaaaa;2", kind);
            for (int f = 0; f < 6; f++) {
                has("at first", x, 0, f, NOTHING, 0, SAW_IT);
            }
            int[] about = {kind, 0, 0, 0, 0};
            for (int what = 0; what <= 4; what++) {
                due("at first: about(0, " + what + ")", x.about(0, what), about[what]);
            }
        }
    }

    // ---- Promise 8: "UNKNOWN; OUTSIDE."

    static void p8WitnessTooSmallOrTooLarge() {
        refusedAll("about(.., 0)", busy(), UNKNOWN, (o, n) -> o.about(n, 0), -1, 2, 3, 4, MIN, MAX);
        refusedAll("about(.., 10)", busy(), UNKNOWN, (o, n) -> o.about(n, 10), -1, 2, 3, 4, MIN, MAX);
        LedWitness full = opened("abcdab;2", 0, 1, 2, 3);
        refusedAll("about(.., 0)", full, UNKNOWN, (o, n) -> o.about(n, 0), -1, 4);
    }

    static void p8WhatBetweenTheRows() {
        refusedAll("about(1, ..)", busy(), OUTSIDE, (o, n) -> o.about(1, n),
                -1, 5, 6, 9, 16, 17, 19, 26, 27, 29, 36, 37, 39, 40, 45, 100, 110, -10, -15, MIN, MAX);
    }

    static void p8FirstAndLastOfEachRow() {
        LedWitness x = opened("abcdab;2", CHILD, CHILD, CHILD);
        x.saw(1, 0, 2, 4);
        x.lead(1, 5, 3, 5);
        int[] what = {0, 4, 10, 15, 20, 25, 30, 35};
        int[] want = {CHILD, 1, 2, 3, 4, 7, SAW_IT, BY_QUESTION};
        for (int i = 0; i < what.length; i++) {
            due("about(1, " + what[i] + ")", x.about(1, what[i]), want[i]);
        }
    }

    static void p8UnknownComesBeforeOutside() {
        refusedAll("about(.., 5)", busy(), UNKNOWN, (o, n) -> o.about(n, 5), -1, 2);
    }

    /** "how many FEATURES are RIGHT with him, 2 of these those that he has FROM 0" */
    static void p8RightNoneAndAll() {
        LedWitness x = opened("abcdab;2", WITNESS, CHILD);
        for (int f = 0; f < 6; f++) {
            x.saw(0, f, (x.feature(f, 0) + 1) % 4, 9);
        }
        due("none is right", x.about(0, 1), 0);
        due("none is right FROM 0", x.about(0, 2), 0);
        for (int f = 0; f < 6; f++) {
            x.saw(0, f, x.feature(f, 0), 0);
            x.lead(1, f, x.feature(f, 0), 1);
        }
        due("all are right", x.about(0, 1), 6);
        due("all are right FROM 0", x.about(0, 2), 6);
        due("all FROM 0", x.about(0, 3), 0);
        due("led: all are right", x.about(1, 1), 6);
        due("led: none FROM 0", x.about(1, 2), 0);
        due("led: all FROM elsewhere", x.about(1, 3), 6);
        due("led: yielded", x.about(1, 4), 6);
    }

    /** "3 how many he has FROM elsewhere": wrong ones too. */
    static void p8FromElsewhereRightOrNot() {
        LedWitness x = opened("aaaaaa;2", CHILD);
        x.lead(0, 0, 1, 1);
        x.lead(0, 1, 0, 1);
        x.saw(0, 2, 0, 1);
        due("right", x.about(0, 1), 2);
        due("right FROM 0", x.about(0, 2), 1);
        due("FROM elsewhere", x.about(0, 3), 2);
    }

    /** "2 and more: from the WITNESS of that number less 2" */
    static void p8FromEachWitness() {
        for (int teller = 0; teller < 4; teller++) {
            for (int hearer = 0; hearer < 4; hearer++) {
                if (teller != hearer) {
                    LedWitness x = opened("abcdab;2", CHILD, CHILD, CHILD, CHILD);
                    x.saw(teller, 4, 1, 3);
                    due("talk()", x.talk(hearer, teller), 1);
                    has("told", x, hearer, 4, 1, 3, FIRST_WITNESS + teller);
                    due("FROM elsewhere", x.about(hearer, 3), 1);
                }
            }
        }
    }

    // ---- Promise 9: "NONE: he is none such (the cast fails). UNKNOWN; OUTSIDE."

    /** "All are WITNESSES; a PARROT is a CHILD, too." */
    static void p9EachKindAsEach() {
        String[] are = {"0", "01", "02", "03", "014"};
        for (int kind = 0; kind < 5; kind++) {
            LedWitness x = opened("abcdab;2", (kind + 1) % 5, kind);
            for (int other = 0; other < 5; other++) {
                boolean such = are[kind].indexOf('0' + other) >= 0;
                due("a " + kind + " as a " + other, x.as(1, other), such ? 1 : NONE);
            }
        }
    }

    static void p9FirstAndLastNumber() {
        LedWitness x = opened("abcdab;2", PARROT, OLD, WITNESS, PARROT);
        due("as(0, 0)", x.as(0, 0), 0);
        due("as(3, 4)", x.as(3, 4), 3);
    }

    static void p9WitnessTooSmallOrTooLarge() {
        refusedAll("as(.., 0)", busy(), UNKNOWN, (o, n) -> o.as(n, 0), -1, 2, 4, MIN, MAX);
    }

    static void p9KindTooSmallOrTooLarge() {
        refusedAll("as(0, ..)", busy(), OUTSIDE, (o, n) -> o.as(0, n), -1, 5, MIN, MAX);
    }

    static void p9UnknownComesBeforeOutside() {
        refusedAll("as(.., 5)", busy(), UNKNOWN, (o, n) -> o.as(n, 5), -1, 2);
    }

    // ---- Promise 10: "UNKNOWN: witness, feature; OUTSIDE: thing (0 to 3), sure (0 to 9)."

    static void p10WitnessTooSmallOrTooLarge() {
        refusedAll("saw(.., 0, 0, 0)", busy(), UNKNOWN, (o, n) -> o.saw(n, 0, 0, 0), -1, 2, 4, MIN, MAX);
    }

    static void p10FeatureTooSmallOrTooLarge() {
        refusedAll("saw(0, .., 0, 0)", busy(), UNKNOWN, (o, n) -> o.saw(0, n, 0, 0), -1, 6, MIN, MAX);
        refusedAll("saw(1, .., 0, 0)", busy(), UNKNOWN, (o, n) -> o.saw(1, n, 0, 0), -1, 6, MIN, MAX);
    }

    static void p10ThingTooSmallOrTooLarge() {
        refusedAll("saw(0, 0, .., 0)", busy(), OUTSIDE, (o, n) -> o.saw(0, 0, n, 0), -1, 4, 5, MIN, MAX);
    }

    static void p10SureTooSmallOrTooLarge() {
        refusedAll("saw(0, 0, 1, ..)", busy(), OUTSIDE, (o, n) -> o.saw(0, 0, 1, n), -1, 10, MIN, MAX);
    }

    static void p10UnknownComesBeforeOutside() {
        refusedAll("saw(.., 0, 4, 10)", busy(), UNKNOWN, (o, n) -> o.saw(n, 0, 4, 10), -1, 2);
        refusedAll("saw(0, .., -1, -1)", busy(), UNKNOWN, (o, n) -> o.saw(0, n, -1, -1), -1, 6);
    }

    static void p10EachThingAndSure() {
        LedWitness x = opened("abcdab;2", WITNESS, STUBBORN);
        int before = NOTHING;
        for (int thing = 0; thing <= 3; thing++) {
            for (int sure = 0; sure <= 9; sure++) {
                due("saw(1, 5, " + thing + ", " + sure + ")", x.saw(1, 5, thing, sure), before);
                has("seen", x, 1, 5, thing, sure, SAW_IT);
                before = thing;
            }
        }
        due("to see is not to yield", x.count(3), 0);
        has("another one", x, 0, 5, NOTHING, 0, SAW_IT);
    }

    /** "FROM 0": also if he had it from elsewhere, and even if it is the same. */
    static void p10FromIs0Again() {
        LedWitness x = opened("abcdab;2", PARROT);
        x.lead(0, 0, 2, 1);
        due("saw() the same", x.saw(0, 0, 2, 1), 2);
        has("seen", x, 0, 0, 2, 1, SAW_IT);
        due("FROM elsewhere", x.about(0, 3), 0);
        due("yielded stays", x.about(0, 4), 1);
    }

    public static void main(String[] args) {
        runAll(WitnessEdgesTest.class);
    }
}
