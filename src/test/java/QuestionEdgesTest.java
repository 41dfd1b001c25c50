/** The edges that the document names for questions, talk and nights: promises 11 to 14. */
public final class QuestionEdgesTest extends Checks {

    // ---- Promise 11: "ASKED openly: what he says. UNKNOWN: witness, feature."

    static void p11WitnessTooSmallOrTooLarge() {
        refusedAll("ask(.., 0)", busy(), UNKNOWN, (o, n) -> o.ask(n, 0), -1, 2, 4, MIN, MAX);
    }

    static void p11FeatureTooSmallOrTooLarge() {
        refusedAll("ask(0, ..)", busy(), UNKNOWN, (o, n) -> o.ask(0, n), -1, 6, MIN, MAX);
        refusedAll("ask(1, ..)", busy(), UNKNOWN, (o, n) -> o.ask(1, n), -1, 6, MIN, MAX);
    }

    /** "SURE of it by 1 more .., if it is not nothing" */
    static void p11Nothing() {
        for (int kind = 0; kind < 5; kind++) {
            LedWitness x = opened("abcdab;2", kind);
            due("ask()", x.ask(0, 5), NOTHING);
            has("asked", x, 0, 5, NOTHING, 0, SAW_IT);
        }
    }

    /** "by 1 more (9 at most)" */
    static void p11SureBy9AtMost() {
        for (int kind = 0; kind < 5; kind++) {
            LedWitness x = opened("abcdab;2", kind);
            x.saw(0, 2, 0, 0);
            for (int n = 1; n <= 12; n++) {
                due("ask() " + n, x.ask(0, 2), 0);
                has("asked " + n, x, 0, 2, 0, n < 9 ? n : 9, SAW_IT);
            }
        }
    }

    static void p11FromStays() {
        LedWitness x = opened("abcdab;2", CHILD);
        x.lead(0, 0, 3, 1);
        due("ask()", x.ask(0, 0), 3);
        has("asked", x, 0, 0, 3, 4, BY_QUESTION);
        due("yielded", x.about(0, 4), 1);
    }

    // ---- Promise 12: "UNKNOWN: witness, feature; OUTSIDE: thing (0 to 3), word (1 to 5)."

    static void p12WitnessTooSmallOrTooLarge() {
        refusedAll("lead(.., 0, 0, 1)", busy(), UNKNOWN, (o, n) -> o.lead(n, 0, 0, 1), -1, 2, 4, MIN, MAX);
    }

    static void p12FeatureTooSmallOrTooLarge() {
        refusedAll("lead(0, .., 0, 1)", busy(), UNKNOWN, (o, n) -> o.lead(0, n, 0, 1), -1, 6, MIN, MAX);
        refusedAll("lead(1, .., 0, 1)", busy(), UNKNOWN, (o, n) -> o.lead(1, n, 0, 1), -1, 6, MIN, MAX);
    }

    static void p12ThingTooSmallOrTooLarge() {
        refusedAll("lead(1, 0, .., 5)", busy(), OUTSIDE, (o, n) -> o.lead(1, 0, n, 5), -1, 4, 5, MIN, MAX);
    }

    static void p12WordTooSmallOrTooLarge() {
        refusedAll("lead(1, 0, 0, ..)", busy(), OUTSIDE, (o, n) -> o.lead(1, 0, 0, n), 0, 6, -1, MIN, MAX);
    }

    static void p12UnknownComesBeforeOutside() {
        refusedAll("lead(.., 0, 4, 6)", busy(), UNKNOWN, (o, n) -> o.lead(n, 0, 4, 6), -1, 2);
        refusedAll("lead(0, .., -1, 0)", busy(), UNKNOWN, (o, n) -> o.lead(0, n, -1, 0), -1, 6);
    }

    /** "PUSHED by as much as the word and STRESS together", "SURE by as much as FORCE (9 at most)" */
    static void p12EachWordAndStress() {
        for (int stress = 0; stress <= 4; stress++) {
            LedWitness x = opened("abcdab;" + stress, CHILD);
            for (int word = 1; word <= 5; word++) {
                int thing = word % 4;
                due("lead() by " + word, x.lead(0, 3, thing, word), 1);
                has("led", x, 0, 3, thing, word + stress, BY_QUESTION);
            }
            due("yielded", x.about(0, 4), 5);
        }
    }

    /** Whether one of a kind, sure by so much of thing 0, yields to thing 1; and that he stays if not. */
    private static void yields(int kind, int sure, int word, int stress, boolean want) {
        LedWitness x = opened("abcdab;" + stress, kind);
        x.saw(0, 1, 0, sure);
        String call = "kind " + kind + ", sure by " + sure + ", force " + (word + stress);
        due(call, x.lead(0, 1, 1, word), want ? 1 : 0);
        int after = kind == PARROT ? 9 : word + stress;
        has(call, x, 0, 1, want ? 1 : 0, want ? after : sure, want ? BY_QUESTION : SAW_IT);
        due(call + ", yielded", x.about(0, 4), want ? 1 : 0);
    }

    /** "he YIELDS, if it is above what he is SURE by" */
    static void p12WitnessYieldsAbove() {
        yields(WITNESS, 0, 1, 0, true);
        yields(WITNESS, 1, 1, 0, false);
        yields(WITNESS, 5, 5, 0, false);
        yields(WITNESS, 4, 5, 0, true);
        yields(WITNESS, 8, 5, 4, true);
        yields(WITNESS, 9, 5, 4, false);
    }

    /** "a CHILD always" */
    static void p12ChildYieldsAlways() {
        yields(CHILD, 9, 1, 0, true);
        yields(CHILD, 0, 1, 0, true);
        yields(CHILD, 9, 5, 4, true);
    }

    /** "an OLD one, if FORCE and 2 are above that" */
    static void p12OldYieldsAboveLess2() {
        yields(OLD, 2, 1, 0, true);
        yields(OLD, 3, 1, 0, false);
        yields(OLD, 9, 4, 4, true);
        yields(OLD, 9, 3, 4, false);
    }

    /** "a STUBBORN one just if he HOLDS nothing and FORCE is above 5" */
    static void p12StubbornWhoHolds() {
        yields(STUBBORN, 0, 1, 4, false);
        yields(STUBBORN, 0, 2, 4, false);
        yields(STUBBORN, 0, 5, 4, false);
        yields(STUBBORN, 9, 5, 4, false);
    }

    static void p12StubbornWhoHoldsNothing() {
        for (int stress = 0; stress <= 4; stress++) {
            for (int word = 1; word <= 5; word++) {
                LedWitness x = opened("abcdab;" + stress, STUBBORN);
                boolean want = word + stress > 5;
                due("force " + (word + stress), x.lead(0, 0, 2, word), want ? 1 : 0);
                has("led", x, 0, 0, want ? 2 : NOTHING, want ? word + stress : 0, want ? BY_QUESTION : SAW_IT);
            }
        }
    }

    /** "a PARROT always", "a PARROT by 9" */
    static void p12ParrotYieldsAlways() {
        yields(PARROT, 9, 1, 0, true);
        yields(PARROT, 0, 1, 0, true);
        yields(PARROT, 9, 5, 4, true);
    }

    /** One who holds nothing is sure by 0, so the least force leads him, but for a stubborn one. */
    static void p12NothingYieldsToTheLeastForce() {
        for (int kind = 0; kind < 5; kind++) {
            LedWitness x = opened("abcdab;0", kind);
            due("kind " + kind, x.lead(0, 0, 0, 1), kind == STUBBORN ? 0 : 1);
        }
    }

    /** "PUSHED to what he HOLDS already is SURE by 1 more (9 at most)"; "0: he HOLDS it already" */
    static void p12HeldAlready() {
        for (int kind = 0; kind < 5; kind++) {
            LedWitness x = opened("abcdab;4", kind);
            x.saw(0, 0, 3, 6);
            for (int sure = 7; sure <= 11; sure++) {
                due("kind " + kind, x.lead(0, 0, 3, 5), 0);
                has("kind " + kind, x, 0, 0, 3, sure < 9 ? sure : 9, SAW_IT);
            }
            due("yielded", x.about(0, 4), 0);
        }
    }

    /** A call that is no refusal but leads nowhere: "who does not YIELD stays as he is". */
    static void p12WhoDoesNotYieldStays() {
        LedWitness x = opened("abcdab;0", STUBBORN, WITNESS);
        x.saw(0, 0, 0, 4);
        x.saw(1, 0, 0, 5);
        refused("a stubborn one", x, 0, o -> o.lead(0, 0, 1, 5));
        refused("a sure one", x, 0, o -> o.lead(1, 0, 1, 5));
    }

    // ---- Promise 13: "Two TALK: how often one YIELDED. UNKNOWN: a, b, or they are the same."

    static void p13FirstTooSmallOrTooLarge() {
        refusedAll("talk(.., 1)", busy(), UNKNOWN, (o, n) -> o.talk(n, 1), -1, 2, 4, MIN, MAX);
    }

    static void p13SecondTooSmallOrTooLarge() {
        refusedAll("talk(0, ..)", busy(), UNKNOWN, (o, n) -> o.talk(0, n), -1, 2, 4, MIN, MAX);
    }

    static void p13TheSame() {
        refusedAll("talk to himself", busy(), UNKNOWN, (o, n) -> o.talk(n, n), 0, 1, 2, -1);
    }

    /** "of which one of them is SURE by more than the other one" */
    static void p13AsSure() {
        for (int sure = 0; sure <= 9; sure += 9) {
            LedWitness x = opened("abcdab;2", CHILD, PARROT);
            x.saw(0, 0, 0, sure);
            x.saw(1, 0, 1, sure);
            x.saw(0, 1, 2, sure);
            x.saw(1, 1, 2, sure);
            refused("talk(0, 1)", x, 0, o -> o.talk(0, 1));
            refused("talk(1, 0)", x, 0, o -> o.talk(1, 0));
        }
    }

    static void p13By1More() {
        LedWitness x = opened("abcdab;2", WITNESS, WITNESS);
        x.saw(0, 0, 0, 1);
        x.saw(1, 0, 1, 0);
        x.saw(0, 5, 0, 8);
        x.saw(1, 5, 1, 9);
        due("talk()", x.talk(0, 1), 2);
        has("0 to 1", x, 1, 0, 0, 1, FIRST_WITNESS);
        has("1 to 0", x, 0, 5, 1, 9, FIRST_WITNESS + 1);
        due("yielded", x.about(0, 4), 1);
        due("yielded", x.about(1, 4), 1);
    }

    /** "and HOLDS something": one who holds it by 0 is not surer than one who holds nothing. */
    static void p13SureBy0() {
        LedWitness x = opened("abcdab;2", CHILD, CHILD);
        x.saw(0, 0, 0, 0);
        refused("talk()", x, 0, o -> o.talk(0, 1));
    }

    static void p13NobodyHolds() {
        refused("talk()", opened("abcdab;2", CHILD, PARROT), 0, o -> o.talk(0, 1));
    }

    /** "how often one YIELDED": of each feature once at most. */
    static void p13AllFeatures() {
        LedWitness x = opened("abcdab;2", CHILD, CHILD);
        for (int f = 0; f < 6; f++) {
            x.saw(f % 2, f, 1, 5);
        }
        due("talk()", x.talk(1, 0), 6);
        due("count(3)", x.count(3), 6);
        due("talk() again", x.talk(1, 0), 0);
    }

    /** The force of talk is what the first one is sure by, without STRESS. */
    static void p13ForceIsWithoutStress() {
        LedWitness x = opened("abcdab;4", CHILD, WITNESS);
        x.saw(1, 0, 2, 3);
        due("talk()", x.talk(0, 1), 1);
        has("told", x, 0, 0, 2, 3, FIRST_WITNESS + 1);
    }

    static void p13StubbornHears() {
        LedWitness x = opened("abcdab;4", STUBBORN, WITNESS);
        x.saw(1, 0, 2, 5);
        x.saw(1, 1, 2, 6);
        x.saw(1, 2, 2, 9);
        x.saw(0, 2, 1, 0);
        due("talk()", x.talk(0, 1), 1);
        has("force 5", x, 0, 0, NOTHING, 0, SAW_IT);
        has("force 6", x, 0, 1, 2, 6, FIRST_WITNESS + 1);
        has("holds another", x, 0, 2, 1, 0, SAW_IT);
    }

    static void p13ParrotHears() {
        LedWitness x = opened("abcdab;4", PARROT, WITNESS);
        x.saw(1, 0, 2, 1);
        due("talk()", x.talk(0, 1), 1);
        has("told", x, 0, 0, 2, 9, FIRST_WITNESS + 1);
        due("talk() again", x.talk(0, 1), 0);
        has("told back what he holds", x, 1, 0, 2, 2, SAW_IT);
    }

    static void p13HeldAlready() {
        LedWitness x = opened("abcdab;4", WITNESS, WITNESS);
        x.saw(0, 0, 2, 9);
        x.saw(1, 0, 2, 7);
        for (int sure = 8; sure <= 10; sure++) {
            due("talk()", x.talk(0, 1), 0);
            has("held already", x, 1, 0, 2, sure < 9 ? sure : 9, SAW_IT);
        }
        has("the surer one", x, 0, 0, 2, 9, SAW_IT);
    }

    // ---- Promise 14: "how many FEATURES anybody HOLDS no more. STATE: no CASE."

    static void p14NoCase() {
        refused("night()", typed("abcdab;2"), STATE, o -> o.night());
    }

    static void p14Nobody() {
        LedWitness x = opened("abcdab;2");
        due("night()", x.night(), 0);
        due("count(4)", x.count(4), 1);
    }

    /** "each OLD one is SURE of each FEATURE by 1 less (0 at least), and then, if it is 0, HOLDS nothing" */
    static void p14By1Less() {
        LedWitness x = opened("abcdab;2", OLD);
        x.saw(0, 0, 3, 9);
        for (int sure = 8; sure >= 1; sure--) {
            due("night()", x.night(), 0);
            has("1 less", x, 0, 0, 3, sure, SAW_IT);
        }
        due("the last night()", x.night(), 1);
        has("lost", x, 0, 0, NOTHING, 0, SAW_IT);
        due("one night() more", x.night(), 0);
        has("0 at least", x, 0, 0, NOTHING, 0, SAW_IT);
        due("count(4)", x.count(4), 10);
    }

    static void p14HeldBy0() {
        LedWitness x = opened("abcdab;2", OLD);
        x.saw(0, 5, 0, 0);
        due("night()", x.night(), 1);
        has("lost", x, 0, 5, NOTHING, 0, SAW_IT);
    }

    /** "and has it FROM 0": just if it is lost. */
    static void p14FromIs0Then() {
        LedWitness x = opened("abcdab;0", OLD, WITNESS);
        x.lead(0, 0, 2, 1);
        x.lead(0, 1, 2, 2);
        x.saw(1, 2, 1, 1);
        x.talk(0, 1);
        due("night()", x.night(), 2);
        has("led, lost", x, 0, 0, NOTHING, 0, SAW_IT);
        has("led, kept", x, 0, 1, 2, 1, BY_QUESTION);
        has("told, lost", x, 0, 2, NOTHING, 0, SAW_IT);
        due("FROM elsewhere", x.about(0, 3), 1);
        due("yielded stays", x.about(0, 4), 3);
    }

    static void p14OthersSleepWell() {
        int[] kinds = {WITNESS, CHILD, STUBBORN, PARROT};
        LedWitness x = opened("abcdab;2", kinds);
        for (int w = 0; w < 4; w++) {
            x.saw(w, 0, 1, 1);
            x.saw(w, 1, 1, 0);
        }
        due("night()", x.night(), 0);
        for (int w = 0; w < 4; w++) {
            has("kind " + kinds[w], x, w, 0, 1, 1, SAW_IT);
            has("kind " + kinds[w], x, w, 1, 1, 0, SAW_IT);
        }
    }

    static void p14AllFeaturesOfAll() {
        LedWitness x = opened("abcdab;2", OLD, OLD, OLD, OLD);
        for (int w = 0; w < 4; w++) {
            for (int f = 0; f < 6; f++) {
                x.saw(w, f, 3, 1);
            }
        }
        due("night()", x.night(), 24);
        due("night() again", x.night(), 0);
    }

    public static void main(String[] args) {
        runAll(QuestionEdgesTest.class);
    }
}
