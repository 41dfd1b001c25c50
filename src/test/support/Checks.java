import java.lang.reflect.InvocationTargetException;
import java.lang.reflect.Method;
import java.util.Arrays;
import java.util.Comparator;
import java.util.function.ToIntFunction;

/** What the tests share: they extend it, since a class without a package cannot be imported. */
class Checks {
    static final int NONE = -1, UNKNOWN = -101, OUTSIDE = -102, STATE = -103, FULL = -104;
    static final int WITNESS = 0, CHILD = 1, OLD = 2, STUBBORN = 3, PARROT = 4;
    static final int NOTHING = 4;
    static final int SAW_IT = 0, BY_QUESTION = 1, FIRST_WITNESS = 2;
    static final int MIN = Integer.MIN_VALUE, MAX = Integer.MAX_VALUE;

    private static int wrong = 0;
    private static String test = "";

    /** A call with one number that is of interest. */
    interface Call {
        int of(LedWitness x, int number);
    }

    static void due(String call, long got, long want) {
        if (got != want) {
            wrong++;
            System.out.println(test + call + " answered " + got + ", due is " + want);
        }
    }

    static void type(LedWitness x, String text) {
        for (int i = 0; i < text.length(); i++) {
            x.letter(text.charAt(i));
        }
    }

    static LedWitness typed(String text) {
        LedWitness x = new LedWitness();
        type(x, text);
        return x;
    }

    static LedWitness opened(String text, int... kinds) {
        LedWitness x = typed(text);
        due("open() of " + text, x.open(), text.charAt(7) - '0');
        for (int i = 0; i < kinds.length; i++) {
            due("witness(" + kinds[i] + ")", x.witness(kinds[i]), i);
        }
        return x;
    }

    /** One in which something was seen, led, said, dreamt and typed, so that a change would show. */
    static LedWitness busy() {
        LedWitness x = opened("abcdab;2", OLD, CHILD);
        x.saw(0, 0, 0, 5);
        x.saw(1, 5, 2, 9);
        x.lead(1, 1, 3, 2);
        x.say(0, 0, 0);
        x.night();
        type(x, "ab");
        return x;
    }

    /** What one has of a feature, as held, sure, from. */
    static void has(String when, LedWitness x, int witness, int feature, int... want) {
        String who = when + ": witness " + witness + ", feature " + feature;
        due(who + ", held", x.about(witness, 10 + feature), want[0]);
        due(who + ", sure", x.about(witness, 20 + feature), want[1]);
        due(who + ", from", x.about(witness, 30 + feature), want[2]);
    }

    /** A refused call: what it answers, and that it changes nothing that digest() tells. */
    static void refused(String call, LedWitness x, int want, ToIntFunction<LedWitness> made) {
        long before = x.digest();
        due(call, made.applyAsInt(x), want);
        due(call + ": digest() behind it", x.digest(), before);
    }

    static void refusedAll(String call, LedWitness x, int want, Call made, int... numbers) {
        for (int n : numbers) {
            refused(call + " with " + n, x, want, o -> made.of(o, n));
        }
    }

    static long fold(long h, long... numbers) {
        for (long number : numbers) {
            h = 31 * h + number;
        }
        return h;
    }

    static long nextSeed(long seed) {
        return (1103515245L * seed + 12345L) % 2147483648L;
    }

    /** Runs every method of the class whose name begins with 'p' and a digit, and tells what failed. */
    static void runAll(Class<?> tests) {
        Method[] all = tests.getDeclaredMethods();
        Arrays.sort(all, Comparator.comparing(Method::getName));
        int ran = 0;
        for (Method m : all) {
            if (m.getName().matches("p\\d.*")) {
                runOne(m);
                ran++;
            }
        }
        test = "";
        due("whether there are tests", ran > 0 ? 1 : 0, 1);
        finish(ran + " tests: ");
    }

    private static void runOne(Method m) {
        test = m.getName() + ": ";
        try {
            m.setAccessible(true);
            m.invoke(null);
        } catch (InvocationTargetException e) {
            wrong++;
            System.out.println(test + "threw " + e.getCause());
        } catch (IllegalAccessException e) {
            wrong++;
            System.out.println(test + "could not be run");
        }
    }

    static void finish(String what) {
        System.out.println(what + (wrong == 0 ? "all answers are as due" : wrong + " answers are not as due"));
        if (wrong != 0) {
            System.exit(1);
        }
    }
}
