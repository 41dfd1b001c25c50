/** Each promise of the document by itself: ordinary inputs, the edges it names, wrong inputs. */
public final class PromiseTest extends Checks {
    private static void promise1NewObject() {
        LedWitness x = new LedWitness();
        for (int what = 0; what <= 8; what++) {
            due("new: count(" + what + ")", x.count(what), 0);
        }
        due("new: fault()", x.fault(), 0);
        due("new: open()", x.open(), STATE);
        due("new: feature(0, 0)", x.feature(0, 0), UNKNOWN);
        due("new: witness(0)", x.witness(0), STATE);
        due("new: about(0, 0)", x.about(0, 0), UNKNOWN);
        due("new: night()", x.night(), STATE);
        due("new: image()", x.image(), STATE);
        due("new: restore()", x.restore(), STATE);
        due("new: corridor(0)", x.corridor(0), STATE);
        due("new: weeks(1, 1, 0)", x.weeks(1, 1, 0), STATE);
        due("new: forget()", x.forget(), 0);
    }

    private static void promise2Letter() {
        LedWitness x = new LedWitness();
        due("letter(31)", x.letter(31), OUTSIDE);
        due("letter(127)", x.letter(127), OUTSIDE);
        due("letter(-1)", x.letter(-1), OUTSIDE);
        due("letter(32)", x.letter(32), 1);
        due("letter(126)", x.letter(126), 2);
        for (int n = 3; n <= 10; n++) {
            due("letter " + n, x.letter('a'), n);
        }
        due("letter 11", x.letter('a'), FULL);
        due("letter 11, and outside", x.letter(31), OUTSIDE);
        due("letters after refusals", x.count(6), 10);
    }

    private static void promise3Blank() {
        LedWitness x = new LedWitness();
        due("blank() of none", x.blank(), 0);
        type(x, "abc");
        due("blank() of three", x.blank(), 3);
        due("blank() again", x.blank(), 0);
        due("letter() behind blank()", x.letter('a'), 1);
    }

    private static void faultOf(String text, int want) {
        LedWitness x = new LedWitness();
        type(x, text);
        due("fault() of '" + text + "'", x.fault(), want);
        due("letters after fault()", x.count(6), text.length());
    }

    private static void promise4Fault() {
        faultOf("", 0);
        faultOf("a", 1);
        faultOf("e", 0);
        faultOf("A", 0);
        faultOf("`", 0);
        faultOf("abcdab", 6);
        faultOf("abcd;", 4);
        faultOf("abcdaba", 6);
        faultOf("abcdab;", 7);
        faultOf("abcdab;0", 8);
        faultOf("abcdab;4", 8);
        faultOf("abcdab;5", 7);
        faultOf("abcdab;/", 7);
        faultOf("abcdab;00", 8);
        faultOf("abcdab;000", 8);
        faultOf("eebcdab;9", 0);
    }

    private static void promise5Open() {
        String[] none = {"", "abcdab", "abcdab;", "abcdab;5", "abcdab;00", "abcdeb;1", "abcdab:1"};
        for (String text : none) {
            LedWitness x = new LedWitness();
            type(x, text);
            due("open() of '" + text + "'", x.open(), STATE);
            due("page of '" + text + "' stays", x.count(6), text.length());
            due("cases read of '" + text + "'", x.count(7), 0);
        }
        LedWitness x = opened("abcdda;3", CHILD, OLD);
        due("page is empty then", x.count(6), 0);
        int[] so = {0, 1, 2, 3, 3, 0};
        for (int f = 0; f < 6; f++) {
            due("what was so of " + f, x.feature(f, 0), so[f]);
        }
        x.saw(0, 0, 0, 5);
        x.lead(1, 1, 1, 1);
        x.night();
        x.say(0, 0, 0);
        x.image();
        due("corridor(0) of the first case", x.corridor(0), 4);
        type(x, "dddddd;1");
        due("open() of another", x.open(), 1);
        int[] counts = {1, 0, 0, 0, 0, 0, 0, 2, 1};
        for (int what = 0; what <= 8; what++) {
            due("count(" + what + ") with another case", x.count(what), counts[what]);
        }
        due("feature(0, 0) of another", x.feature(0, 0), 3);
        due("about(0, 0) of one who is gone", x.about(0, 0), UNKNOWN);
        due("restore() with another case", x.restore(), STATE);
        due("witness() anew", x.witness(WITNESS), 0);
        has("new one", x, 0, 0, NOTHING, 0, 0);
        has("new one", x, 0, 1, NOTHING, 0, 0);
        due("yielded of the new one", x.about(0, 4), 0);
        due("led(0, 0), nothing said", x.led(0, 0), 120);
        type(x, "abc");
        due("open() refused", x.open(), STATE);
        due("case stays when open() is refused", x.feature(5, 0), 3);
        due("witness stays when open() is refused", x.count(1), 1);
    }

    private static void promise6Feature() {
        LedWitness x = opened("abcdab;2", WITNESS, WITNESS, WITNESS, WITNESS);
        due("feature(-1, 0)", x.feature(-1, 0), UNKNOWN);
        due("feature(6, 0)", x.feature(6, 0), UNKNOWN);
        due("feature(6, 9)", x.feature(6, 9), UNKNOWN);
        due("feature(0, -1)", x.feature(0, -1), OUTSIDE);
        due("feature(0, 4)", x.feature(0, 4), OUTSIDE);
        due("most, nobody holds", x.feature(1, 1), 4);
        due("by how much, nobody holds", x.feature(1, 2), 0);
        due("right with nobody", x.feature(1, 3), 0);
        x.saw(0, 1, 3, 0);
        due("most, held by 0", x.feature(1, 1), 3);
        due("by how much, held by 0", x.feature(1, 2), 0);
        x.saw(1, 1, 1, 4);
        x.saw(2, 1, 2, 3);
        x.saw(3, 1, 2, 3);
        due("most by sum", x.feature(1, 1), 2);
        due("by how much by sum", x.feature(1, 2), 2);
        due("right as bits", x.feature(1, 3), 2);
        x.saw(0, 1, 1, 2);
        due("most of like ones", x.feature(1, 1), 1);
        due("by how much of like ones", x.feature(1, 2), 0);
        due("right as bits of two", x.feature(1, 3), 3);
        x.saw(3, 0, 0, 1);
        due("right as bit 3", x.feature(0, 3), 8);
        due("alone", x.feature(0, 2), 1);
        x.saw(0, 2, 0, 3);
        x.saw(1, 2, 3, 5);
        due("most ahead of 0", x.feature(2, 1), 3);
        due("by how much ahead of 0", x.feature(2, 2), 2);
    }

    private static void promise7Witness() {
        LedWitness x = new LedWitness();
        due("witness(5) without a case", x.witness(5), OUTSIDE);
        due("witness(-1) without a case", x.witness(-1), OUTSIDE);
        due("witness(4) without a case", x.witness(4), STATE);
        x = opened("aaaaaa;0", PARROT, STUBBORN, OLD, CHILD);
        due("fifth", x.witness(0), FULL);
        due("fifth, and outside", x.witness(5), OUTSIDE);
        due("how many", x.count(1), 4);
        for (int f = 0; f < 6; f++) {
            has("at first", x, 3, f, NOTHING, 0, 0);
        }
    }

    private static void promise8About() {
        LedWitness x = opened("abcdab;2", OLD, CHILD);
        due("about(-1, 0)", x.about(-1, 0), UNKNOWN);
        due("about(2, 99)", x.about(2, 99), UNKNOWN);
        int[] outside = {-1, 5, 9, 16, 19, 26, 29, 36, 40, Integer.MIN_VALUE, Integer.MAX_VALUE};
        for (int what : outside) {
            due("about(0, " + what + ")", x.about(0, what), OUTSIDE);
        }
        due("kind", x.about(0, 0), OLD);
        x.saw(1, 0, 0, 3);
        x.saw(1, 1, 0, 3);
        x.lead(1, 2, 2, 1);
        x.lead(1, 3, 0, 4);
        x.saw(0, 5, 1, 7);
        x.talk(0, 1);
        due("right", x.about(1, 1), 3);
        due("right FROM 0", x.about(1, 2), 1);
        due("FROM elsewhere, right or not", x.about(1, 3), 3);
        due("yielded", x.about(1, 4), 3);
        has("saw", x, 1, 0, 0, 3, 0);
        has("led", x, 1, 3, 0, 6, 1);
        has("talked", x, 1, 5, 1, 7, 2);
        has("talked back", x, 0, 3, 0, 6, 3);
        LedWitness y = opened("bbbbbb;0", CHILD);
        y.lead(0, 0, 1, 1);
        due("led to what was so", y.about(0, 1), 1);
        due("led to what was so, FROM 0", y.about(0, 2), 0);
        due("led to what was so, FROM elsewhere", y.about(0, 3), 1);
    }

    private static void promise9As() {
        LedWitness x = opened("abcdab;2", PARROT, CHILD, OLD, STUBBORN);
        int[][] such = {
            {0, 0, NONE, NONE, 0},
            {1, 1, NONE, NONE, NONE},
            {2, NONE, 2, NONE, NONE},
            {3, NONE, NONE, 3, NONE},
        };
        for (int w = 0; w < 4; w++) {
            for (int kind = 0; kind < 5; kind++) {
                due("as(" + w + ", " + kind + ")", x.as(w, kind), such[w][kind]);
            }
        }
        due("as(4, 0)", x.as(4, 0), UNKNOWN);
        due("as(-1, 9)", x.as(-1, 9), UNKNOWN);
        due("as(0, 5)", x.as(0, 5), OUTSIDE);
        due("as(0, -1)", x.as(0, -1), OUTSIDE);
        LedWitness y = opened("abcdab;2", WITNESS);
        due("a witness as a child", y.as(0, CHILD), NONE);
        due("a witness as a witness", y.as(0, WITNESS), 0);
    }

    private static void promise10Saw() {
        LedWitness x = opened("abcdab;2", STUBBORN);
        due("saw(1, 0, 0, 0)", x.saw(1, 0, 0, 0), UNKNOWN);
        due("saw(0, 6, 9, 99)", x.saw(0, 6, 9, 99), UNKNOWN);
        due("saw(0, -1, 0, 0)", x.saw(0, -1, 0, 0), UNKNOWN);
        due("saw(0, 0, 4, 0)", x.saw(0, 0, 4, 0), OUTSIDE);
        due("saw(0, 0, -1, 0)", x.saw(0, 0, -1, 0), OUTSIDE);
        due("saw(0, 0, 0, -1)", x.saw(0, 0, 0, -1), OUTSIDE);
        due("saw(0, 0, 0, 10)", x.saw(0, 0, 0, 10), OUTSIDE);
        has("refused", x, 0, 0, NOTHING, 0, 0);
        due("saw first", x.saw(0, 0, 3, 9), NOTHING);
        due("saw then", x.saw(0, 0, 1, 0), 3);
        has("seen", x, 0, 0, 1, 0, 0);
        due("led", x.lead(0, 1, 2, 4), 1);
        due("saw the same", x.saw(0, 1, 2, 1), 2);
        has("seen behind led", x, 0, 1, 2, 1, 0);
        due("to see is not to yield", x.about(0, 4), 1);
    }

    private static void promise11Ask() {
        LedWitness x = opened("abcdab;2", OLD);
        due("ask(1, 0)", x.ask(1, 0), UNKNOWN);
        due("ask(0, 6)", x.ask(0, 6), UNKNOWN);
        due("ask(0, -1)", x.ask(0, -1), UNKNOWN);
        due("asked of nothing", x.ask(0, 0), NOTHING);
        has("asked of nothing", x, 0, 0, NOTHING, 0, 0);
        x.saw(0, 0, 2, 7);
        for (int sure = 8; sure <= 10; sure++) {
            due("asked", x.ask(0, 0), 2);
            has("asked", x, 0, 0, 2, Math.min(9, sure), 0);
        }
        due("asked is not yielded", x.about(0, 4), 0);
    }

    private static void promise12Lead() {
        LedWitness x = opened("abcdab;2", WITNESS);
        due("lead(1, 0, 0, 1)", x.lead(1, 0, 0, 1), UNKNOWN);
        due("lead(0, 6, 9, 9)", x.lead(0, 6, 9, 9), UNKNOWN);
        due("lead(0, 0, 4, 1)", x.lead(0, 0, 4, 1), OUTSIDE);
        due("lead(0, 0, -1, 1)", x.lead(0, 0, -1, 1), OUTSIDE);
        due("lead(0, 0, 0, 0)", x.lead(0, 0, 0, 0), OUTSIDE);
        due("lead(0, 0, 0, 6)", x.lead(0, 0, 0, 6), OUTSIDE);
        x.saw(0, 0, 0, 5);
        due("a witness, force is not above", x.lead(0, 0, 1, 3), 0);
        has("not led", x, 0, 0, 0, 5, 0);
        due("a witness, force is above", x.lead(0, 0, 1, 4), 1);
        has("led", x, 0, 0, 1, 6, 1);
        due("led to what he holds", x.lead(0, 0, 1, 5), 0);
        has("led to what he holds", x, 0, 0, 1, 7, 1);
        due("yielded", x.about(0, 4), 1);
        leadChildAndParrot();
        leadOld();
        leadStubborn();
    }

    private static void leadChildAndParrot() {
        LedWitness x = opened("abcdab;4", CHILD, PARROT);
        x.saw(0, 0, 0, 9);
        due("a child always", x.lead(0, 0, 1, 1), 1);
        has("child", x, 0, 0, 1, 5, 1);
        due("a child, greatest force", x.lead(0, 0, 2, 5), 1);
        has("child", x, 0, 0, 2, 9, 1);
        due("a child, held at 9", x.lead(0, 0, 2, 1), 0);
        has("child", x, 0, 0, 2, 9, 1);
        x.saw(1, 0, 0, 9);
        due("a parrot always", x.lead(1, 0, 1, 1), 1);
        has("parrot", x, 1, 0, 1, 9, 1);
        x.saw(1, 1, 1, 3);
        due("a parrot, held", x.lead(1, 1, 1, 1), 0);
        has("parrot", x, 1, 1, 1, 4, 0);
    }

    private static void leadOld() {
        LedWitness x = opened("abcdab;1", OLD);
        x.saw(0, 0, 0, 5);
        due("an old one, force and 2 are not above", x.lead(0, 0, 1, 2), 0);
        has("old", x, 0, 0, 0, 5, 0);
        due("an old one, force and 2 are above", x.lead(0, 0, 1, 3), 1);
        has("old", x, 0, 0, 1, 4, 1);
    }

    private static void leadStubborn() {
        LedWitness x = opened("abcdab;3", STUBBORN);
        due("a stubborn one, force 5", x.lead(0, 0, 1, 2), 0);
        has("stubborn", x, 0, 0, NOTHING, 0, 0);
        due("a stubborn one, force 6", x.lead(0, 0, 1, 3), 1);
        has("stubborn", x, 0, 0, 1, 6, 1);
        x.saw(0, 1, 1, 0);
        due("a stubborn one who holds", x.lead(0, 1, 2, 5), 0);
        has("stubborn", x, 0, 1, 1, 0, 0);
    }

    private static void promise13Talk() {
        LedWitness x = opened("abcdab;2", WITNESS, WITNESS, PARROT, STUBBORN);
        due("talk(0, 0)", x.talk(0, 0), UNKNOWN);
        due("talk(0, 4)", x.talk(0, 4), UNKNOWN);
        due("talk(-1, 0)", x.talk(-1, 0), UNKNOWN);
        x.saw(0, 0, 0, 5);
        x.saw(1, 0, 1, 4);
        x.saw(0, 1, 2, 3);
        x.saw(1, 1, 3, 8);
        x.saw(0, 2, 1, 6);
        x.saw(1, 2, 1, 2);
        x.saw(0, 3, 1, 6);
        x.saw(1, 3, 2, 6);
        x.saw(0, 4, 1, 0);
        due("talk(1, 0)", x.talk(1, 0), 2);
        has("to the less sure", x, 1, 0, 0, 5, 2);
        has("the surer stays", x, 0, 0, 0, 5, 0);
        has("the other way", x, 0, 1, 3, 8, 3);
        has("held already", x, 1, 2, 1, 3, 0);
        has("as sure as the other", x, 0, 3, 1, 6, 0);
        has("as sure as the other", x, 1, 3, 2, 6, 0);
        has("sure by 0", x, 1, 4, NOTHING, 0, 0);
        has("nobody holds", x, 0, 5, NOTHING, 0, 0);
        due("yielded", x.about(0, 4), 1);
        due("yielded", x.about(1, 4), 1);
        due("to a parrot", x.talk(0, 2), 4);
        has("parrot", x, 2, 0, 0, 9, 2);
        due("to a stubborn one", x.talk(3, 0), 3);
        has("force 5", x, 3, 0, NOTHING, 0, 0);
        has("force 8", x, 3, 1, 3, 8, 2);
        has("force 6", x, 3, 2, 1, 6, 2);
        LedWitness y = opened("abcdab;2", CHILD, CHILD);
        y.saw(0, 0, 0, 6);
        y.saw(1, 0, 1, 6);
        due("children as sure as one another", y.talk(0, 1), 0);
        has("stays", y, 0, 0, 0, 6, 0);
        has("stays", y, 1, 0, 1, 6, 0);
    }

    private static void promise14Night() {
        LedWitness x = opened("abcdab;2", OLD, WITNESS, OLD);
        x.saw(0, 0, 0, 2);
        x.saw(0, 1, 1, 1);
        x.saw(0, 2, 2, 0);
        x.saw(0, 3, 3, 9);
        x.saw(1, 0, 0, 1);
        x.saw(2, 5, 1, 1);
        x.lead(0, 4, 0, 1);
        due("night()", x.night(), 3);
        has("1 less", x, 0, 0, 0, 1, 0);
        has("lost", x, 0, 1, NOTHING, 0, 0);
        has("lost at 0", x, 0, 2, NOTHING, 0, 0);
        has("1 less", x, 0, 3, 3, 8, 0);
        has("not an old one", x, 1, 0, 0, 1, 0);
        due("second night()", x.night(), 1);
        has("led", x, 0, 4, 0, 1, 1);
        due("third night()", x.night(), 1);
        has("led and lost", x, 0, 4, NOTHING, 0, 0);
        due("nights", x.count(4), 3);
        due("a night of nobody", opened("abcdab;2").night(), 0);
    }

    private static void promise15Word() {
        LedWitness x = opened("abcdab;2", WITNESS, CHILD, OLD, STUBBORN);
        due("word(4, 0, 0)", x.word(4, 0, 0), UNKNOWN);
        due("word(0, 6, 9)", x.word(0, 6, 9), UNKNOWN);
        due("word(0, 0, 4)", x.word(0, 0, 4), OUTSIDE);
        due("word(0, 0, -1)", x.word(0, 0, -1), OUTSIDE);
        for (int w = 0; w < 4; w++) {
            x.saw(w, 0, 0, 6);
            due("word of what he holds", x.word(w, 0, 0), NONE);
        }
        due("of a witness", x.word(0, 0, 1), 5);
        due("of a child", x.word(1, 0, 1), 1);
        due("of an old one", x.word(2, 0, 1), 3);
        due("of a stubborn one", x.word(3, 0, 1), NONE);
        due("of a stubborn one who holds nothing", x.word(3, 1, 1), 4);
        x.saw(0, 0, 0, 7);
        x.saw(2, 0, 0, 9);
        due("of a witness, too sure", x.word(0, 0, 1), NONE);
        due("of an old one, too sure", x.word(2, 0, 1), NONE);
        has("nobody was led", x, 1, 0, 0, 6, 0);
    }

    private static void promise16Corridor() {
        LedWitness x = opened("aaaaaa;0");
        int[] outside = {-1, 1, 9, 16, Integer.MIN_VALUE, Integer.MAX_VALUE};
        for (int what : outside) {
            due("corridor(" + what + ")", x.corridor(what), OUTSIDE);
        }
        due("refused ones are not done", x.count(8), 0);
        due("corridor(0) of nobody", x.corridor(0), 0);
        due("corridor(10) of nobody", x.corridor(10), NONE);
        x.witness(WITNESS);
        x.saw(0, 0, 0, 1);
        due("corridor(0) of one", x.corridor(0), 1);
        due("corridor(10) of one", x.corridor(10), NONE);
        corridorOfThree();
        for (int n = 5; n <= 20; n++) {
            due("corridor " + n, x.corridor(0), 1);
        }
        due("corridor 21", x.corridor(0), STATE);
        due("corridor 21, and outside", x.corridor(1), OUTSIDE);
        due("corridor was done", x.count(8), 20);
        type(x, "bbbbbb;0");
        x.open();
        due("corridor 21 with another case", x.corridor(0), STATE);
        due("corridor without a case", new LedWitness().corridor(1), OUTSIDE);
    }

    /**
     * 0 is right, 1 is wrong and surer, so 0 will not stay right in any order; the stubborn 2 keeps
     * what he hears first, so it is best that he hears 0 before 0 hears 1.
     */
    private static void corridorOfThree() {
        LedWitness x = opened("aaaaaa;0", WITNESS, WITNESS, STUBBORN);
        x.saw(0, 0, 0, 6);
        x.saw(1, 0, 1, 8);
        due("three: how many", x.corridor(0), 1);
        due("three: first pair", x.corridor(10), 2);
        due("three: second pair", x.corridor(11), 1);
        due("three: third pair", x.corridor(12), 6);
        due("three: fourth pair", x.corridor(13), NONE);
        due("three: last pair", x.corridor(15), NONE);
        has("nobody talked", x, 0, 0, 0, 6, 0);
        has("nobody talked", x, 2, 0, NOTHING, 0, 0);
        due("nobody yielded", x.count(3), 0);
    }

    private static void promise17Say() {
        LedWitness x = opened("abcdab;2", WITNESS);
        due("say(1, 0, 0)", x.say(1, 0, 0), UNKNOWN);
        due("say(0, 6, 9)", x.say(0, 6, 9), UNKNOWN);
        due("say(0, 0, 5)", x.say(0, 0, 5), OUTSIDE);
        due("say(0, 0, -1)", x.say(0, 0, -1), OUTSIDE);
        for (int n = 1; n <= 6; n++) {
            due("say " + n, x.say(0, n - 1, n == 6 ? 4 : 0), n);
        }
        due("say 7", x.say(0, 0, 0), FULL);
        due("say 7, and outside", x.say(0, 0, 5), OUTSIDE);
        due("how much", x.count(5), 6);
    }

    private static void promise18Forget() {
        LedWitness x = opened("abcdab;2", WITNESS);
        due("forget() of nothing", x.forget(), 0);
        x.say(0, 0, 0);
        x.say(0, 0, 1);
        due("led of two that cannot be", x.led(0, 0), 0);
        due("forget()", x.forget(), 2);
        due("said then", x.count(5), 0);
        due("led then", x.led(0, 0), 120);
        due("say() then", x.say(0, 0, 0), 1);
    }

    private static void promise19Led() {
        LedWitness x = opened("abcdab;2", WITNESS, STUBBORN);
        due("led(2, 9)", x.led(2, 9), UNKNOWN);
        due("led(-1, 0)", x.led(-1, 0), UNKNOWN);
        due("led(0, 2)", x.led(0, 2), OUTSIDE);
        due("led(0, -1)", x.led(0, -1), OUTSIDE);
        due("nothing said: how many", x.led(0, 0), 120);
        due("nothing said: least", x.led(0, 1), 0);
        x.saw(0, 3, 1, 5);
        x.say(0, 3, 2);
        due("by force above 5: how many", x.led(0, 0), 2);
        due("by force above 5: least", x.led(0, 1), 60 + 10 + 3);
        due("said of another: how many", x.led(1, 0), 120);
        x.say(0, 0, 0);
        due("by one question not both", x.led(0, 0), 0);
        due("by one question not both: least", x.led(0, 1), NONE);
        x.saw(0, 0, 0, 1);
        due("one is so already", x.led(0, 0), 2);
        x.forget();
        x.say(0, 3, 1);
        due("stays so: how many", x.led(0, 0), 120 - 6);
        due("stays so: least", x.led(0, 1), 0);
        x.say(1, 5, 3);
        due("stubborn: how many", x.led(1, 0), 2);
        due("stubborn: least", x.led(1, 1), 100 + 15 + 3);
        has("nobody was led", x, 1, 5, NOTHING, 0, 0);
    }

    private static void promise20Weeks() {
        LedWitness x = opened("abcdab;1");
        due("weeks of nobody", x.weeks(1, 1, 0), STATE);
        due("weeks(0, 1, 0)", x.weeks(0, 1, 0), OUTSIDE);
        due("weeks(61, 1, 0)", x.weeks(61, 1, 0), OUTSIDE);
        due("weeks(1, -1, 0)", x.weeks(1, -1, 0), OUTSIDE);
        due("weeks(1, 1, 3)", x.weeks(1, 1, 3), OUTSIDE);
        due("weeks(1, 1, -1)", x.weeks(1, 1, -1), OUTSIDE);
        x.witness(CHILD);
        long seed = 0;
        for (int i = 0; i < 4; i++) {
            seed = (1103515245L * seed + 12345) % 2147483648L;
        }
        due("the seed behind four draws", x.weeks(1, 0, 2), seed);
        due("a child who holds nothing yields", x.weeks(1, 0, 0), 1);
        has("as they would be", x, 0, 0, NOTHING, 0, 0);
        due("no night was", x.count(4), 0);
        due("none yielded", x.count(3), 0);
        due("60 weeks are allowed", x.weeks(60, 2147483647, 0) >= 1 ? 1 : 0, 1);
        weeksOfChild(x, 60, 4711);
        weeksWithNights();
    }

    /** A child alone yields each time it is led to another thing than it holds. */
    private static void weeksOfChild(LedWitness x, int times, int start) {
        int[] holds = {4, 4, 4, 4, 4, 4};
        int[] bounds = {1, 6, 4, 5};
        int[] drawn = new int[4];
        long seed = start;
        int yields = 0;
        for (int i = 0; i < times; i++) {
            for (int k = 0; k < 4; k++) {
                seed = (1103515245L * seed + 12345) % 2147483648L;
                drawn[k] = (int) (seed / 65536 % bounds[k]);
            }
            yields += holds[drawn[1]] == drawn[2] ? 0 : 1;
            holds[drawn[1]] = drawn[2];
        }
        int right = 0;
        for (int f = 0; f < 6; f++) {
            right += holds[f] == x.feature(f, 0) ? 1 : 0;
        }
        due("a child's weeks, yielded", x.weeks(times, start, 0), yields);
        due("a child's weeks, right", x.weeks(times, start, 1), right);
        due("a child's weeks, seed", x.weeks(times, start, 2), seed);
    }

    /** An old one who is sure by 1 of all holds nothing but what he was led to, behind one week. */
    private static void weeksWithNights() {
        LedWitness x = opened("aaaaaa;4", OLD);
        for (int f = 0; f < 6; f++) {
            x.saw(0, f, 0, 1);
        }
        int right = x.weeks(1, 7, 1);
        due("weeks, all else is lost", right <= 1 ? 1 : 0, 1);
        for (int f = 0; f < 6; f++) {
            x.saw(0, f, 0, 2);
        }
        due("two weeks are two nights", x.weeks(2, 7, 1) <= 2 ? 1 : 0, 1);
    }

    private static void promise21Image() {
        LedWitness x = opened("abcdab;1", OLD);
        due("image()", x.image(), 0);
        x.night();
        due("image() behind a night", x.image(), 1);
        x.night();
        due("restore() to the latest", x.restore(), 1);
    }

    private static void promise22Restore() {
        LedWitness x = opened("abcdab;1", OLD, CHILD);
        due("restore() of none", x.restore(), STATE);
        x.saw(0, 0, 0, 4);
        x.lead(1, 0, 2, 1);
        x.say(0, 0, 1);
        x.image();
        x.talk(0, 1);
        x.lead(0, 3, 3, 3);
        x.night();
        x.forget();
        x.say(0, 0, 3);
        x.say(1, 1, 1);
        x.say(1, 2, 1);
        x.witness(PARROT);
        x.corridor(0);
        x.letter('a');
        for (int twice = 0; twice < 2; twice++) {
            due("restore()", x.restore(), 0);
            has("restored", x, 0, 0, 0, 4, 0);
            has("restored", x, 0, 3, NOTHING, 0, 0);
            has("restored", x, 1, 0, 2, 2, 1);
            due("restored: how many", x.count(1), 2);
            due("restored: yielded", x.count(3), 1);
            due("restored: nights", x.count(4), 0);
            due("restored: said", x.count(5), 1);
            due("restored: led", x.led(0, 0), 4);
            due("restored: led by the least", x.led(0, 1), 6);
            due("the page stays", x.count(6), 1);
            due("corridor() stays done", x.count(8), 1);
            due("one who came since is gone", x.about(2, 0), UNKNOWN);
            due("another one comes", x.witness(STUBBORN), 2);
            due("his kind", x.about(2, 0), STUBBORN);
            has("he holds nothing", x, 2, 0, NOTHING, 0, 0);
            x.saw(2, 0, 1, 7);
            x.night();
        }
        x.blank();
        type(x, "abcdab;1");
        x.open();
        due("restore() with another case", x.restore(), STATE);
        due("image() of another case", x.image(), 0);
        due("restore() of another case", x.restore(), 0);
        due("nobody", x.count(1), 0);
    }

    private static void promise23Count() {
        LedWitness x = opened("abcdab;3", CHILD, CHILD);
        x.saw(0, 0, 0, 1);
        x.saw(1, 0, 0, 1);
        x.lead(1, 1, 1, 1);
        x.lead(0, 1, 0, 1);
        x.night();
        x.say(0, 0, 0);
        x.letter('z');
        x.letter('z');
        x.corridor(0);
        int[] counts = {3, 2, 3, 2, 1, 1, 2, 1, 1};
        for (int what = 0; what <= 8; what++) {
            due("count(" + what + ")", x.count(what), counts[what]);
        }
        due("count(9)", x.count(9), OUTSIDE);
        due("count(-1)", x.count(-1), OUTSIDE);
    }

    private static void promise24Digest() {
        LedWitness x = new LedWitness();
        long h = fold(887, 0, 0, 0, 0, 0, 0, 0, 0, 0);
        due("digest() of a new object", x.digest(), h);
        type(x, "xb");
        h = fold(887, 'x', 'b', 0, 0, 0, 0, 0, 0, 2, 0, 0);
        due("digest() with a page", x.digest(), h);
        x = opened("abcdab;2", OLD);
        x.saw(0, 1, 1, 5);
        x.lead(0, 2, 3, 2);
        x.say(0, 1, 0);
        type(x, "q");
        h = fold(887, 0, 4, 0, 0, 1, 1, 5, 1, 2, 3, 4, 0, 3, 4, 0, 0, 0, 4, 0, 0, 1, 4, 0, 0);
        h = fold(h, 2, 1, 1, 1, 1, 4, 1, 3, 4, 4, 4, 0, 5, 4, 0, 0, 0, 0, 0, 1, 0, 0, 0);
        h = fold(h, 4, 21, 'q', 2, 1, 1, 1, 0, 1, 1, 1, 0);
        due("digest() with a case", x.digest(), h);
        due("digest() again", x.digest(), h);
    }

    public static void main(String[] args) {
        promise1NewObject();
        promise2Letter();
        promise3Blank();
        promise4Fault();
        promise5Open();
        promise6Feature();
        promise7Witness();
        promise8About();
        promise9As();
        promise10Saw();
        promise11Ask();
        promise12Lead();
        promise13Talk();
        promise14Night();
        promise15Word();
        promise16Corridor();
        promise17Say();
        promise18Forget();
        promise19Led();
        promise20Weeks();
        promise21Image();
        promise22Restore();
        promise23Count();
        promise24Digest();
        finish("");
    }
}
