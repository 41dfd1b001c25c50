/** The edges that the document names for what is told of all: promises 21 to 24, and the 512 calls. */
public final class AllEdgesTest extends Checks {

    // ---- Promise 21: "An IMAGE is kept (one; the latest): how many NIGHTS there were. STATE: no CASE."

    static void p21NoCase() {
        LedWitness x = typed("abcdab;2");
        refused("image()", x, STATE, o -> o.image());
        x.open();
        due("restore(): none was kept", x.restore(), STATE);
    }

    static void p21TheLatest() {
        LedWitness x = opened("abcdab;2", OLD);
        x.saw(0, 0, 0, 9);
        for (int n = 0; n <= 3; n++) {
            due("image()", x.image(), n);
            x.night();
        }
        due("restore()", x.restore(), 3);
        has("restored", x, 0, 0, 0, 6, SAW_IT);
    }

    static void p21ChangesNothing() {
        LedWitness x = busy();
        refused("image()", x, 1, o -> o.image());
    }

    static void p21OfNobody() {
        LedWitness x = opened("abcdab;2");
        due("image()", x.image(), 0);
        x.witness(OLD);
        x.night();
        due("restore()", x.restore(), 0);
        due("count(1)", x.count(1), 0);
        due("count(4)", x.count(4), 0);
    }

    /** What happens behind it does not reach into the image, and the image not into what is. */
    static void p21IsACopy() {
        LedWitness x = busy();
        x.image();
        long before = x.digest();
        for (int twice = 0; twice < 2; twice++) {
            x.saw(0, 0, 3, 1);
            x.lead(1, 2, 2, 5);
            x.ask(1, 5);
            x.say(1, 1, 1);
            x.night();
            x.restore();
            due("digest() behind restore()", x.digest(), before);
        }
    }

    // ---- Promise 22: "STATE: none was kept, or there is another CASE since."

    static void p22NoneWasKept() {
        refused("restore() without a case", new LedWitness(), STATE, o -> o.restore());
        refused("restore()", busy(), STATE, o -> o.restore());
    }

    static void p22AnotherCaseSince() {
        LedWitness x = busy();
        x.image();
        x.blank();
        type(x, "abcdab;2");
        due("restore() with the page alone", x.restore(), 1);
        x.open();
        refused("restore()", x, STATE, o -> o.restore());
        due("image() of the other case", x.image(), 0);
        due("restore() of the other case", x.restore(), 0);
    }

    /** "those that come since are gone by restore()" */
    static void p22ThoseThatComeSinceAreGone() {
        LedWitness x = opened("abcdab;2", CHILD);
        x.image();
        for (int n = 1; n <= 3; n++) {
            x.witness(OLD);
            x.saw(n, n, 1, 9);
            x.lead(n, 0, 3, 5);
            x.say(n, 0, 0);
        }
        due("the fifth", x.witness(OLD), FULL);
        x.restore();
        due("count(1)", x.count(1), 1);
        due("count(5)", x.count(5), 0);
        refusedAll("about(.., 0)", x, UNKNOWN, (o, n) -> o.about(n, 0), 1, 2, 3);
        for (int n = 1; n <= 3; n++) {
            due("witness()", x.witness(PARROT), n);
            due("his kind", x.about(n, 0), PARROT);
            due("his yielding", x.about(n, 4), 0);
            for (int f = 0; f < 6; f++) {
                has("he", x, n, f, NOTHING, 0, SAW_IT);
            }
        }
    }

    /** "what they HOLD, how SURE, FROM where, how often YIELDED, NIGHTS, SAID" */
    static void p22WhatItKeeps() {
        LedWitness x = opened("abcdab;0", OLD, CHILD);
        x.saw(0, 0, 2, 5);
        x.lead(1, 0, 1, 2);
        x.say(1, 0, 3);
        x.night();
        x.image();
        x.talk(0, 1);
        x.night();
        x.forget();
        x.say(0, 1, 1);
        x.say(0, 2, 1);
        due("restore()", x.restore(), 1);
        has("restored", x, 0, 0, 2, 4, SAW_IT);
        has("restored", x, 1, 0, 1, 2, BY_QUESTION);
        due("yielded", x.about(1, 4), 1);
        due("count(4)", x.count(4), 1);
        due("count(5)", x.count(5), 1);
        due("led(1, 1)", x.led(1, 1), 15);
        due("led(0, 0)", x.led(0, 0), 120);
    }

    /** Of each of four, of each feature. */
    static void p22KeepsAllOfAll() {
        LedWitness x = opened("abcdab;0", WITNESS, CHILD, OLD, PARROT);
        for (int w = 0; w < 4; w++) {
            for (int f = 0; f < 6; f++) {
                x.lead(w, f, (w + f) % 4, 1 + (w + f) % 5);
            }
        }
        for (int f = 0; f < 6; f++) {
            x.say(f % 4, f, (f + 1) % 5);
        }
        long before = x.digest();
        x.image();
        x.forget();
        for (int w = 0; w < 4; w++) {
            for (int f = 0; f < 6; f++) {
                x.saw(w, f, (w + f + 1) % 4, 9);
            }
            x.say(w, 0, 0);
            x.say(w, 0, 1);
        }
        x.restore();
        due("digest()", x.digest(), before);
    }

    /** What the document does not list goes on: the page, cases read, corridor(). */
    static void p22WhatItDoesNotKeep() {
        LedWitness x = opened("abcdab;0", OLD, CHILD);
        type(x, "ab");
        x.image();
        x.letter('c');
        x.corridor(0);
        x.restore();
        due("count(6)", x.count(6), 3);
        due("count(7)", x.count(7), 1);
        due("count(8)", x.count(8), 1);
    }

    static void p22AgainAndAgain() {
        LedWitness x = busy();
        x.image();
        for (int n = 0; n < 3; n++) {
            x.night();
            due("restore()", x.restore(), 1);
        }
    }

    // ---- Promise 23: "0 STRESS .. 8 how often corridor() was done. OUTSIDE."

    static void p23WhatTooSmallOrTooLarge() {
        refusedAll("count", new LedWitness(), OUTSIDE, LedWitness::count, -1, 9, MIN, MAX);
        refusedAll("count", busy(), OUTSIDE, LedWitness::count, -1, 9, 10, MIN, MAX);
    }

    private static void countsAre(String when, LedWitness x, int... want) {
        for (int what = 0; what <= 8; what++) {
            due(when + ": count(" + what + ")", x.count(what), want[what]);
        }
    }

    static void p23EachByItself() {
        LedWitness x = typed("abcdab;3");
        countsAre("typed", x, 0, 0, 0, 0, 0, 0, 8, 0, 0);
        x.open();
        countsAre("opened", x, 3, 0, 0, 0, 0, 0, 0, 1, 0);
        x.witness(CHILD);
        x.witness(CHILD);
        countsAre("two came", x, 3, 2, 0, 0, 0, 0, 0, 1, 0);
        x.saw(0, 0, 0, 9);
        x.saw(1, 0, 0, 9);
        x.saw(1, 1, 0, 9);
        countsAre("seen", x, 3, 2, 2, 0, 0, 0, 0, 1, 0);
        x.lead(0, 2, 0, 1);
        x.lead(1, 2, 2, 1);
        countsAre("led", x, 3, 2, 3, 2, 0, 0, 0, 1, 0);
        x.night();
        countsAre("slept", x, 3, 2, 3, 2, 1, 0, 0, 1, 0);
        x.say(0, 0, 0);
        countsAre("said", x, 3, 2, 3, 2, 1, 1, 0, 1, 0);
        x.letter('a');
        countsAre("typed", x, 3, 2, 3, 2, 1, 1, 1, 1, 0);
        x.corridor(0);
        countsAre("corridor", x, 3, 2, 3, 2, 1, 1, 1, 1, 1);
    }

    /** "FEATURES that are RIGHT with all together": 24 at most. */
    static void p23RightWithAll() {
        LedWitness x = opened("abcdab;3", 0, 1, 2, 3);
        due("none", x.count(2), 0);
        for (int w = 0; w < 4; w++) {
            for (int f = 0; f < 6; f++) {
                x.saw(w, f, x.feature(f, 0), 0);
                due("count(2)", x.count(2), 6 * w + f + 1);
            }
        }
    }

    /** "how often a CASE was read": also a like one, not a refused one. */
    static void p23CasesRead() {
        LedWitness x = new LedWitness();
        for (int n = 1; n <= 5; n++) {
            x.open();
            type(x, "abcdab;3");
            x.open();
            due("count(7)", x.count(7), n);
        }
    }

    // ---- Promise 24: "h is 887, then for each of these numbers, in order, 31 times h, and it"

    private static final int[] ABOUT = {0, 1, 2, 3, 4, 10, 11, 12, 13, 14, 15,
        20, 21, 22, 23, 24, 25, 30, 31, 32, 33, 34, 35};

    private static long asTold(LedWitness x, String page) {
        long h = 887;
        for (int f = 0; f < 6 && x.count(7) > 0; f++) {
            for (int what = 0; what <= 3; what++) {
                h = fold(h, x.feature(f, what));
            }
        }
        for (int w = 0; w < x.count(1); w++) {
            for (int what : ABOUT) {
                h = fold(h, x.about(w, what));
            }
            h = fold(h, x.led(w, 0), x.led(w, 1));
        }
        for (int i = 0; i < page.length(); i++) {
            h = fold(h, page.charAt(i));
        }
        for (int what = 0; what <= 8; what++) {
            h = fold(h, x.count(what));
        }
        return h;
    }

    static void p24NoCase() {
        LedWitness x = new LedWitness();
        due("digest()", x.digest(), fold(887, 0, 0, 0, 0, 0, 0, 0, 0, 0));
        type(x, "a~ ");
        due("digest() with a page", x.digest(), fold(887, 'a', '~', ' ', 0, 0, 0, 0, 0, 0, 3, 0, 0));
    }

    static void p24NoWitness() {
        LedWitness x = opened("abcdab;2");
        due("digest()", x.digest(), asTold(x, ""));
    }

    static void p24PageIsFull() {
        LedWitness x = opened("abcdab;2", CHILD);
        type(x, "0123456789");
        due("digest()", x.digest(), asTold(x, "0123456789"));
    }

    /** "as longs, wrapping": 24 numbers of features alone are above 2 to the 63. */
    static void p24Wraps() {
        LedWitness x = opened("abcdab;2", WITNESS, CHILD, OLD, PARROT);
        for (int w = 0; w < 4; w++) {
            x.saw(w, w, w, 9);
            x.lead(w, w + 1, 3, 5);
            x.say(w, 0, 3 - w);
        }
        x.say(1, 5, 4);
        x.say(1, 5, 3);
        x.talk(0, 3);
        x.corridor(0);
        x.night();
        type(x, "x");
        due("led(1, 1) is below 0", x.led(1, 1), NONE);
        due("digest()", x.digest(), asTold(x, "x"));
        due("digest() again", x.digest(), asTold(x, "x"));
    }

    /** "An object is used for at most 512 calls after it has been made": all of them are answered. */
    static void p24FiveHundredAndTwelveCalls() {
        LedWitness x = opened("abcdab;2", CHILD);
        for (int n = 1; n <= 500; n++) {
            due("lead() " + n, x.lead(0, 0, n % 2, 1), 1);
        }
        due("the 511th call", x.about(0, 4), 500);
        due("the 512th call", x.count(3), 500);
    }

    static void p24FiveHundredNights() {
        LedWitness x = opened("abcdab;2", OLD);
        for (int n = 1; n <= 500; n++) {
            due("night() " + n, x.night(), 0);
        }
        due("image()", x.image(), 500);
    }

    public static void main(String[] args) {
        runAll(AllEdgesTest.class);
    }
}
