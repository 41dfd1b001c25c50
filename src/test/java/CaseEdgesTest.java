/** The edges that the document names for the page, the case and its features: promises 1 to 6. */
public final class CaseEdgesTest extends Checks {
    private static final String GOOD = "abcdab;2";

    // ---- Promise 1: "No CASE."; Terms: "At first there is none."

    static void p1NoCase() {
        LedWitness x = new LedWitness();
        for (int f = 0; f < 6; f++) {
            due("feature(" + f + ", 0)", x.feature(f, 0), UNKNOWN);
        }
        refused("witness(0)", x, STATE, o -> o.witness(0));
        refused("night()", x, STATE, o -> o.night());
        refused("corridor(0)", x, STATE, o -> o.corridor(0));
        refused("corridor(10)", x, STATE, o -> o.corridor(10));
        refused("weeks(1, 0, 0)", x, STATE, o -> o.weeks(1, 0, 0));
        refused("image()", x, STATE, o -> o.image());
        refused("restore()", x, STATE, o -> o.restore());
    }

    static void p1NoWitness() {
        LedWitness x = new LedWitness();
        refused("about", x, UNKNOWN, o -> o.about(0, 0));
        refused("as", x, UNKNOWN, o -> o.as(0, 0));
        refused("saw", x, UNKNOWN, o -> o.saw(0, 0, 0, 0));
        refused("ask", x, UNKNOWN, o -> o.ask(0, 0));
        refused("lead", x, UNKNOWN, o -> o.lead(0, 0, 0, 1));
        refused("talk", x, UNKNOWN, o -> o.talk(0, 1));
        refused("word", x, UNKNOWN, o -> o.word(0, 0, 0));
        refused("say", x, UNKNOWN, o -> o.say(0, 0, 0));
        refused("led", x, UNKNOWN, o -> o.led(0, 0));
    }

    static void p1NothingElse() {
        LedWitness x = new LedWitness();
        for (int what = 0; what <= 8; what++) {
            due("count(" + what + ")", x.count(what), 0);
        }
        due("blank()", x.blank(), 0);
        due("fault()", x.fault(), 0);
        due("forget()", x.forget(), 0);
        refused("open()", x, STATE, o -> o.open());
    }

    static void p1ObjectsShareNothing() {
        LedWitness first = busy();
        long before = first.digest();
        LedWitness x = new LedWitness();
        due("count(1) of a second object", x.count(1), 0);
        due("digest() of a second object", x.digest(), fold(887, 0, 0, 0, 0, 0, 0, 0, 0, 0));
        type(x, "dddddd;4");
        x.open();
        x.witness(PARROT);
        x.lead(0, 0, 0, 5);
        due("digest() of the first one", first.digest(), before);
    }

    // ---- Promise 2: "OUTSIDE: code (32 to 126); FULL: above 10."

    static void p2CodeTooSmall() {
        LedWitness x = typed("a");
        refusedAll("letter", x, OUTSIDE, LedWitness::letter, 31, 0, -1, -97, MIN);
        due("letters", x.count(6), 1);
    }

    static void p2CodeTooLarge() {
        LedWitness x = typed("a");
        refusedAll("letter", x, OUTSIDE, LedWitness::letter, 127, 128, 256 + 97, 65536 + 97, MAX);
        due("letters", x.count(6), 1);
    }

    static void p2LeastAndGreatestCode() {
        LedWitness x = new LedWitness();
        due("letter(32)", x.letter(32), 1);
        due("letter(126)", x.letter(126), 2);
        due("digest() with both", x.digest(), fold(887, 32, 126, 0, 0, 0, 0, 0, 0, 2, 0, 0));
    }

    static void p2TenAreAllowed() {
        LedWitness x = new LedWitness();
        for (int n = 1; n <= 10; n++) {
            due("letter " + n, x.letter('a' + n), n);
        }
        due("letters", x.count(6), 10);
    }

    static void p2EleventhIsFull() {
        LedWitness x = typed("abcdab;234");
        refusedAll("letter", x, FULL, LedWitness::letter, 'a', 32, 126);
        due("letters", x.count(6), 10);
    }

    static void p2OutsideComesBeforeFull() {
        LedWitness x = typed("abcdab;234");
        refusedAll("letter", x, OUTSIDE, LedWitness::letter, 31, 127);
    }

    static void p2RoomAgainBehindBlank() {
        LedWitness x = typed("abcdab;234");
        x.blank();
        due("letter", x.letter('c'), 1);
        due("digest()", x.digest(), fold(887, 'c', 0, 0, 0, 0, 0, 0, 1, 0, 0));
    }

    // ---- Promise 3: "THE PAGE is empty: how many letters it had."

    static void p3EmptyPage() {
        due("blank()", new LedWitness().blank(), 0);
    }

    static void p3FullPage() {
        LedWitness x = typed("abcdab;234");
        due("blank()", x.blank(), 10);
        due("letters", x.count(6), 0);
        due("blank() again", x.blank(), 0);
    }

    static void p3CaseStays() {
        LedWitness x = busy();
        x.blank();
        long before = x.digest();
        type(x, "zz");
        due("blank()", x.blank(), 2);
        due("digest()", x.digest(), before);
    }

    // ---- Promise 4: "the first letter of THE PAGE that no CASE has there, behind those ahead of it"

    private static void faultIs(String text, int want) {
        LedWitness x = typed(text);
        long before = x.digest();
        due("fault() of '" + text + "'", x.fault(), want);
        due("digest() behind fault()", x.digest(), before);
    }

    static void p4EmptyPage() {
        faultIs("", 0);
    }

    static void p4NoFaultYet() {
        for (int length = 1; length <= 8; length++) {
            faultIs(GOOD.substring(0, length), length);
        }
    }

    static void p4LettersOutsideAToD() {
        for (int place = 0; place < 6; place++) {
            String ahead = GOOD.substring(0, place);
            for (char c : "abcd".toCharArray()) {
                faultIs(ahead + c, place + 1);
            }
            for (char c : "`eADz;0 ~".toCharArray()) {
                faultIs(ahead + c, place);
            }
        }
    }

    static void p4NoSemicolon() {
        for (char c : ":<a0 ".toCharArray()) {
            faultIs("abcdab" + c, 6);
        }
        faultIs("abcdab;", 7);
    }

    static void p4StressOutside0To4() {
        for (char c : "01234".toCharArray()) {
            faultIs("abcdab;" + c, 8);
        }
        for (char c : "/5a9; ".toCharArray()) {
            faultIs("abcdab;" + c, 7);
        }
    }

    static void p4NothingFitsBehind() {
        for (char c : "a;02 ".toCharArray()) {
            faultIs(GOOD + c, 8);
            faultIs(GOOD + c + c, 8);
        }
    }

    static void p4FirstOfSeveral() {
        faultIs("abzdzb;9", 2);
        faultIs("zbcdab;2", 0);
        faultIs("abcdab;99", 7);
    }

    // ---- Promise 5: "THE PAGE is read as THE CASE .. STATE: it is none."

    private static void openIsRefused(String text) {
        LedWitness x = typed(text);
        refused("open() of '" + text + "'", x, STATE, o -> o.open());
        due("page of '" + text + "'", x.count(6), text.length());
        due("feature(0, 0) behind '" + text + "'", x.feature(0, 0), UNKNOWN);
    }

    static void p5EmptyPage() {
        openIsRefused("");
    }

    static void p5TooShort() {
        for (int length = 1; length <= 7; length++) {
            openIsRefused(GOOD.substring(0, length));
        }
    }

    static void p5TooLong() {
        openIsRefused(GOOD + "2");
        openIsRefused(GOOD + " ");
        openIsRefused(GOOD + "ab");
    }

    static void p5WrongAtEachPlace() {
        for (int place = 0; place < 8; place++) {
            for (char c : "`e5/ ".toCharArray()) {
                openIsRefused(GOOD.substring(0, place) + c + GOOD.substring(place + 1));
            }
        }
    }

    static void p5EachStress() {
        for (int stress = 0; stress <= 4; stress++) {
            LedWitness x = typed("abcdab;" + stress);
            due("open() with stress " + stress, x.open(), stress);
            due("count(0) with stress " + stress, x.count(0), stress);
        }
    }

    static void p5EachThingAtEachPlace() {
        for (int thing = 0; thing < 4; thing++) {
            for (int place = 0; place < 6; place++) {
                char other = thing == 0 ? 'b' : 'a';
                char[] text = (("" + other).repeat(6) + ";0").toCharArray();
                text[place] = (char) ('a' + thing);
                LedWitness x = opened(new String(text));
                for (int f = 0; f < 6; f++) {
                    due("feature(" + f + ", 0)", x.feature(f, 0), f == place ? thing : other - 'a');
                }
            }
        }
    }

    static void p5PageIsEmptyThen() {
        LedWitness x = typed(GOOD);
        x.open();
        due("count(6)", x.count(6), 0);
        due("fault()", x.fault(), 0);
        due("open() again", x.open(), STATE);
        due("letter()", x.letter('a'), 1);
    }

    static void p5AnotherIsGoneWithAllThatWas() {
        LedWitness x = busy();
        x.image();
        x.blank();
        type(x, "dddddd;1");
        due("open()", x.open(), 1);
        int[] counts = {1, 0, 0, 0, 0, 0, 0, 2, 0};
        for (int what = 0; what <= 8; what++) {
            due("count(" + what + ")", x.count(what), counts[what]);
        }
        due("about(0, 0)", x.about(0, 0), UNKNOWN);
        due("what was so", x.feature(0, 0), 3);
        due("most", x.feature(0, 1), 4);
        due("right", x.feature(0, 3), 0);
        due("restore()", x.restore(), STATE);
        due("forget()", x.forget(), 0);
    }

    static void p5NewOnesHaveNothingOfTheOldOnes() {
        LedWitness x = busy();
        x.blank();
        type(x, "dddddd;1");
        x.open();
        due("witness()", x.witness(WITNESS), 0);
        due("witness()", x.witness(PARROT), 1);
        for (int w = 0; w < 2; w++) {
            due("yielded", x.about(w, 4), 0);
            due("led(" + w + ", 0)", x.led(w, 0), 120);
            for (int f = 0; f < 6; f++) {
                has("new", x, w, f, NOTHING, 0, SAW_IT);
            }
        }
        due("say()", x.say(0, 0, 4), 1);
    }

    static void p5SameTextIsAnotherCase() {
        LedWitness x = opened(GOOD, CHILD);
        x.image();
        type(x, GOOD);
        due("open()", x.open(), 2);
        due("count(1)", x.count(1), 0);
        due("restore()", x.restore(), STATE);
    }

    static void p5RefusedKeepsTheCase() {
        LedWitness x = busy();
        x.image();
        due("page of two letters: open()", x.open(), STATE);
        due("count(1)", x.count(1), 2);
        due("feature(3, 0)", x.feature(3, 0), 3);
        due("the image stays", x.restore(), 1);
        x.blank();
        refused("open() of an empty page", x, STATE, o -> o.open());
    }

    // ---- Promise 6: "UNKNOWN (also without a CASE); OUTSIDE."

    static void p6WithoutACase() {
        LedWitness x = typed(GOOD);
        for (int what = -1; what <= 4; what++) {
            int told = what;
            refusedAll("feature(.., " + what + ")", x, UNKNOWN, (o, n) -> o.feature(n, told), -1, 0, 5, 6);
        }
    }

    static void p6FeatureTooSmallOrTooLarge() {
        LedWitness x = busy();
        refusedAll("feature(.., 0)", x, UNKNOWN, (o, n) -> o.feature(n, 0), -1, 6, MIN, MAX);
    }

    static void p6WhatTooSmallOrTooLarge() {
        LedWitness x = busy();
        refusedAll("feature(0, ..)", x, OUTSIDE, (o, n) -> o.feature(0, n), -1, 4, 10, MIN, MAX);
        refusedAll("feature(5, ..)", x, OUTSIDE, (o, n) -> o.feature(5, n), -1, 4, MIN, MAX);
    }

    static void p6UnknownComesBeforeOutside() {
        LedWitness x = busy();
        refusedAll("feature(.., 4)", x, UNKNOWN, (o, n) -> o.feature(n, 4), -1, 6);
    }

    /** "nobody HOLDS anything: 4" */
    static void p6NobodyHoldsAnything() {
        LedWitness nobody = opened(GOOD);
        LedWitness all = opened(GOOD, WITNESS, CHILD, OLD, STUBBORN);
        for (int f = 0; f < 6; f++) {
            due("most, no witness", nobody.feature(f, 1), 4);
            due("ahead, no witness", nobody.feature(f, 2), 0);
            due("right, no witness", nobody.feature(f, 3), 0);
            due("most, four who hold nothing", all.feature(f, 1), 4);
            due("ahead, four who hold nothing", all.feature(f, 2), 0);
            due("right, four who hold nothing", all.feature(f, 3), 0);
        }
    }

    /** "of those of 0 to 3 that somebody HOLDS": one who is sure by 0 holds it all the same. */
    static void p6HeldBy0() {
        LedWitness x = opened(GOOD, WITNESS, WITNESS);
        x.saw(1, 0, 3, 0);
        due("most", x.feature(0, 1), 3);
        due("ahead", x.feature(0, 2), 0);
        x.saw(0, 0, 2, 0);
        due("most of two by 0", x.feature(0, 1), 2);
        due("ahead of two by 0", x.feature(0, 2), 0);
    }

    /** "of like ones the least" */
    static void p6LikeOnes() {
        LedWitness x = opened(GOOD, WITNESS, WITNESS, WITNESS);
        x.saw(0, 0, 3, 4);
        x.saw(1, 0, 1, 4);
        x.saw(2, 0, 2, 4);
        due("most of three", x.feature(0, 1), 1);
        due("ahead of three", x.feature(0, 2), 0);
        x.saw(1, 0, 2, 0);
        due("most of two", x.feature(0, 1), 2);
        x.saw(0, 0, 3, 5);
        due("most by 1", x.feature(0, 1), 3);
        due("ahead by 1", x.feature(0, 2), 1);
    }

    /** "of those of 0 to 3": each of them can be it, alone and ahead of each other one. */
    static void p6EachThingCanBeMost() {
        for (int thing = 0; thing < 4; thing++) {
            LedWitness x = opened(GOOD, WITNESS, WITNESS);
            x.saw(0, 4, thing, 2);
            due("alone", x.feature(4, 1), thing);
            due("alone: ahead", x.feature(4, 2), 2);
            for (int other = 0; other < 4; other++) {
                x.saw(1, 4, other, 1);
                due("most", x.feature(4, 1), thing);
                due("ahead", x.feature(4, 2), other == thing ? 3 : 1);
            }
        }
    }

    /** "all who HOLD it are SURE by most together" */
    static void p6Together() {
        LedWitness x = opened(GOOD, WITNESS, WITNESS, WITNESS, WITNESS);
        x.saw(0, 0, 0, 9);
        x.saw(1, 0, 3, 4);
        x.saw(2, 0, 3, 4);
        x.saw(3, 0, 3, 2);
        due("most", x.feature(0, 1), 3);
        due("ahead", x.feature(0, 2), 1);
    }

    /** "by how much that is more than for any other one of 0 to 3 (0 for one that nobody HOLDS)" */
    static void p6Ahead() {
        LedWitness x = opened(GOOD, WITNESS, WITNESS, WITNESS, WITNESS);
        x.saw(0, 0, 2, 7);
        due("more than none", x.feature(0, 2), 7);
        x.saw(1, 0, 0, 3);
        x.saw(2, 0, 3, 2);
        due("more than the next one, not than all", x.feature(0, 2), 4);
        for (int w = 0; w < 4; w++) {
            x.saw(w, 5, 3, 9);
        }
        due("four by 9", x.feature(5, 2), 36);
        due("most of four by 9", x.feature(5, 1), 3);
    }

    /** "with whom it is RIGHT, as bits" */
    static void p6RightBits() {
        LedWitness x = opened(GOOD, WITNESS, WITNESS, WITNESS, WITNESS);
        int bits = 0;
        for (int w = 3; w >= 0; w--) {
            x.saw(w, 3, 3, 0);
            bits += 1 << w;
            due("feature(3, 3) with " + w, x.feature(3, 3), bits);
        }
        x.saw(2, 3, 2, 9);
        due("feature(3, 3) without 2", x.feature(3, 3), 11);
    }

    public static void main(String[] args) {
        runAll(CaseEdgesTest.class);
    }
}
