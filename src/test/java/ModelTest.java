import java.util.ArrayList;
import java.util.Arrays;
import java.util.List;
import java.util.Random;

/** Random runs of calls on the class and on a slow model of the document, answer against answer. */
public final class ModelTest {
    private static final int NONE = -1, UNKNOWN = -101, OUTSIDE = -102, STATE = -103, FULL = -104;
    private static final int RUNS = 1500;
    private static final int CALLS = 400;

    /** One witness of the model: he knows his kind by his number alone. */
    private static final class Person {
        final int kind;
        int yields;
        final int[][] has = new int[6][];

        Person(int kind) {
            this.kind = kind;
            for (int f = 0; f < 6; f++) {
                has[f] = new int[] {4, 0, 0};
            }
        }

        Person twin() {
            Person other = new Person(kind);
            other.yields = yields;
            for (int f = 0; f < 6; f++) {
                other.has[f] = has[f].clone();
            }
            return other;
        }

        boolean pushed(int f, int thing, int force, int from) {
            int[] h = has[f];
            if (h[0] == thing) {
                h[1] = Math.min(9, h[1] + 1);
                return false;
            }
            boolean yield = kind == 0 && force > h[1]
                    || kind == 1 || kind == 4
                    || kind == 2 && force + 2 > h[1]
                    || kind == 3 && h[0] == 4 && force > 5;
            if (yield) {
                has[f] = new int[] {thing, kind == 4 ? 9 : Math.min(force, 9), from};
                yields++;
            }
            return yield;
        }

        int night() {
            int lost = 0;
            for (int f = 0; kind == 2 && f < 6; f++) {
                int before = has[f][0];
                has[f][1] = has[f][1] == 0 ? 0 : has[f][1] - 1;
                if (has[f][1] == 0) {
                    has[f] = new int[] {4, 0, 0};
                    lost += before == 4 ? 0 : 1;
                }
            }
            return lost;
        }

        int right(String so) {
            int n = 0;
            for (int f = 0; f < 6; f++) {
                n += has[f][0] == so.charAt(f) - 'a' ? 1 : 0;
            }
            return n;
        }
    }

    private static final class Model {
        String page = "";
        String so;
        int read;
        int corridors;
        int nights;
        List<Person> all = new ArrayList<>();
        List<int[]> said = new ArrayList<>();
        List<Person> keptAll;
        List<int[]> keptSaid;
        int keptNights;

        static List<Person> twins(List<Person> of) {
            List<Person> out = new ArrayList<>();
            for (Person p : of) {
                out.add(p.twin());
            }
            return out;
        }

        int stress() {
            return so == null ? 0 : so.charAt(7) - '0';
        }

        int right(List<Person> of) {
            int n = 0;
            for (Person p : of) {
                n += p.right(so);
            }
            return n;
        }

        static int talk(List<Person> of, int a, int b) {
            int n = 0;
            for (int f = 0; f < 6; f++) {
                int[] x = of.get(a).has[f];
                int[] y = of.get(b).has[f];
                if (x[1] > y[1] && x[0] != 4) {
                    n += of.get(b).pushed(f, x[0], x[1], a + 2) ? 1 : 0;
                } else if (y[1] > x[1] && y[0] != 4) {
                    n += of.get(a).pushed(f, y[0], y[1], b + 2) ? 1 : 0;
                }
            }
            return n;
        }

        boolean noOne(int w) {
            return w < 0 || w >= all.size();
        }

        boolean noPlace(int w, int f) {
            return noOne(w) || f < 0 || f > 5;
        }

        int fault() {
            String[] fit = {"abcd", "abcd", "abcd", "abcd", "abcd", "abcd", ";", "01234"};
            int i = 0;
            while (i < page.length() && i < 8 && fit[i].indexOf(page.charAt(i)) >= 0) {
                i++;
            }
            return i;
        }

        int open() {
            if (!page.matches("[a-d]{6};[0-4]")) {
                return STATE;
            }
            so = page;
            page = "";
            read++;
            nights = 0;
            all = new ArrayList<>();
            said = new ArrayList<>();
            keptAll = null;
            return stress();
        }

        int feature(int f, int what) {
            if (so == null || f < 0 || f > 5) {
                return UNKNOWN;
            }
            int[] sums = new int[4];
            int bits = 0;
            boolean[] held = new boolean[4];
            for (int w = 0; w < all.size(); w++) {
                int[] h = all.get(w).has[f];
                if (h[0] < 4) {
                    sums[h[0]] += h[1];
                    held[h[0]] = true;
                }
                bits |= h[0] == so.charAt(f) - 'a' ? 1 << w : 0;
            }
            int best = 4;
            for (int t = 3; t >= 0; t--) {
                if (held[t] && (best == 4 || sums[t] >= sums[best])) {
                    best = t;
                }
            }
            int top = best == 4 ? 0 : sums[best];
            if (best < 4) {
                sums[best] = 0;
            }
            int second = Arrays.stream(sums).max().getAsInt();
            int[] told = {so.charAt(f) - 'a', best, top - second, bits};
            return what < 0 || what > 3 ? OUTSIDE : told[what];
        }

        int about(int w, int what) {
            if (noOne(w)) {
                return UNKNOWN;
            }
            Person p = all.get(w);
            int seen = 0;
            int elsewhere = 0;
            for (int f = 0; f < 6; f++) {
                seen += p.has[f][0] == so.charAt(f) - 'a' && p.has[f][2] == 0 ? 1 : 0;
                elsewhere += p.has[f][2] > 0 ? 1 : 0;
            }
            int[] told = {p.kind, p.right(so), seen, elsewhere, p.yields};
            if (what >= 0 && what <= 4) {
                return told[what];
            }
            for (int row = 1; row <= 3; row++) {
                if (what >= 10 * row && what <= 10 * row + 5) {
                    return p.has[what - 10 * row][row - 1];
                }
            }
            return OUTSIDE;
        }

        int as(int w, int kind) {
            if (noOne(w)) {
                return UNKNOWN;
            }
            if (kind < 0 || kind > 4) {
                return OUTSIDE;
            }
            String[] are = {"0", "01", "02", "03", "014"};
            return are[all.get(w).kind].indexOf((char) ('0' + kind)) >= 0 ? w : NONE;
        }

        int word(int w, int f, int thing) {
            if (noPlace(w, f)) {
                return UNKNOWN;
            }
            if (thing < 0 || thing > 3) {
                return OUTSIDE;
            }
            for (int word = 1; word <= 5; word++) {
                if (all.get(w).twin().pushed(f, thing, word + stress(), 1)) {
                    return word;
                }
            }
            return NONE;
        }

        int corridor(int what) {
            if (what != 0 && (what < 10 || what > 15)) {
                return OUTSIDE;
            }
            if (so == null || corridors == 20) {
                return STATE;
            }
            corridors++;
            List<Integer> pairs = new ArrayList<>();
            for (int a = 0; a < all.size(); a++) {
                for (int b = a + 1; b < all.size(); b++) {
                    pairs.add(4 * a + b);
                }
            }
            List<List<Integer>> orders = new ArrayList<>();
            permute(pairs, new ArrayList<>(), orders);
            int best = -1;
            List<Integer> bestOrder = null;
            for (List<Integer> order : orders) {
                List<Person> there = twins(all);
                for (int pair : order) {
                    talk(there, pair / 4, pair % 4);
                }
                if (right(there) > best) {
                    best = right(there);
                    bestOrder = order;
                }
            }
            if (what == 0) {
                return best;
            }
            return what - 10 < bestOrder.size() ? bestOrder.get(what - 10) : NONE;
        }

        static void permute(List<Integer> left, List<Integer> done, List<List<Integer>> out) {
            if (left.isEmpty()) {
                out.add(done);
            }
            for (Integer pair : left) {
                List<Integer> rest = new ArrayList<>(left);
                rest.remove(pair);
                List<Integer> more = new ArrayList<>(done);
                more.add(pair);
                permute(rest, more, out);
            }
        }

        int led(int w, int what) {
            if (noOne(w)) {
                return UNKNOWN;
            }
            if (what != 0 && what != 1) {
                return OUTSIDE;
            }
            int n = 0;
            int least = NONE;
            for (int q = 119; q >= 0; q--) {
                Person p = all.get(w).twin();
                p.pushed(q / 20, q % 20 / 5, q % 5 + 1 + stress(), 1);
                boolean fits = true;
                for (int[] s : said) {
                    fits &= s[0] != w || p.has[s[1]][0] == s[2];
                }
                if (fits) {
                    n++;
                    least = q;
                }
            }
            return what == 0 ? n : least;
        }

        int weeks(int times, int seed, int what) {
            if (times < 1 || times > 60 || seed < 0 || what < 0 || what > 2) {
                return OUTSIDE;
            }
            if (all.isEmpty()) {
                return STATE;
            }
            List<Person> there = twins(all);
            long s = seed;
            int yields = 0;
            int[] of = {there.size(), 6, 4, 5};
            for (int i = 0; i < times; i++) {
                int[] drawn = new int[4];
                for (int k = 0; k < 4; k++) {
                    s = (1103515245L * s + 12345L) % 2147483648L;
                    drawn[k] = (int) (s / 65536 % of[k]);
                }
                boolean y = there.get(drawn[0]).pushed(drawn[1], drawn[2], drawn[3] + 1 + stress(), 1);
                yields += y ? 1 : 0;
                for (Person p : there) {
                    p.night();
                }
            }
            return what == 0 ? yields : what == 1 ? right(there) : (int) s;
        }

        int count(int what) {
            int yields = 0;
            for (Person p : all) {
                yields += p.yields;
            }
            int[] told = {stress(), all.size(), right(all), yields, nights, said.size(),
                page.length(), read, corridors};
            return what < 0 || what > 8 ? OUTSIDE : told[what];
        }

        long digest() {
            List<Long> numbers = new ArrayList<>();
            for (int f = 0; so != null && f < 6; f++) {
                for (int what = 0; what < 4; what++) {
                    numbers.add((long) feature(f, what));
                }
            }
            int[] whats = {0, 1, 2, 3, 4, 10, 11, 12, 13, 14, 15, 20, 21, 22, 23, 24, 25,
                30, 31, 32, 33, 34, 35};
            for (int w = 0; w < all.size(); w++) {
                for (int what : whats) {
                    numbers.add((long) about(w, what));
                }
                numbers.add((long) led(w, 0));
                numbers.add((long) led(w, 1));
            }
            for (char c : page.toCharArray()) {
                numbers.add((long) c);
            }
            for (int what = 0; what <= 8; what++) {
                numbers.add((long) count(what));
            }
            long h = 887;
            for (long number : numbers) {
                h = 31 * h + number;
            }
            return h;
        }

        /** The model's answer to one call, by its number in the document and its arguments. */
        long call(int promise, int[] a) {
            switch (promise) {
                case 2: return letter(a[0]);
                case 3: { int n = page.length(); page = ""; return n; }
                case 4: return fault();
                case 5: return open();
                case 6: return feature(a[0], a[1]);
                case 7: return witness(a[0]);
                case 8: return about(a[0], a[1]);
                case 9: return as(a[0], a[1]);
                case 10: return saw(a);
                case 11: return ask(a[0], a[1]);
                case 12: return lead(a);
                case 13: return noOne(a[0]) || noOne(a[1]) || a[0] == a[1] ? UNKNOWN : talk(all, a[0], a[1]);
                case 14: return night();
                case 15: return word(a[0], a[1], a[2]);
                case 16: return corridor(a[0]);
                case 17: return say(a);
                case 18: { int n = said.size(); said = new ArrayList<>(); return n; }
                case 19: return led(a[0], a[1]);
                case 20: return weeks(a[0], a[1], a[2]);
                case 21: return image();
                case 22: return restore();
                case 23: return count(a[0]);
                default: return digest();
            }
        }

        int letter(int code) {
            if (code < 32 || code > 126) {
                return OUTSIDE;
            }
            if (page.length() == 10) {
                return FULL;
            }
            page += (char) code;
            return page.length();
        }

        int witness(int kind) {
            if (kind < 0 || kind > 4) {
                return OUTSIDE;
            }
            if (so == null) {
                return STATE;
            }
            if (all.size() == 4) {
                return FULL;
            }
            all.add(new Person(kind));
            return all.size() - 1;
        }

        int saw(int[] a) {
            if (noPlace(a[0], a[1])) {
                return UNKNOWN;
            }
            if (a[2] < 0 || a[2] > 3 || a[3] < 0 || a[3] > 9) {
                return OUTSIDE;
            }
            int before = all.get(a[0]).has[a[1]][0];
            all.get(a[0]).has[a[1]] = new int[] {a[2], a[3], 0};
            return before;
        }

        int ask(int w, int f) {
            if (noPlace(w, f)) {
                return UNKNOWN;
            }
            int[] h = all.get(w).has[f];
            h[1] = h[0] == 4 ? h[1] : Math.min(9, h[1] + 1);
            return h[0];
        }

        int lead(int[] a) {
            if (noPlace(a[0], a[1])) {
                return UNKNOWN;
            }
            if (a[2] < 0 || a[2] > 3 || a[3] < 1 || a[3] > 5) {
                return OUTSIDE;
            }
            return all.get(a[0]).pushed(a[1], a[2], a[3] + stress(), 1) ? 1 : 0;
        }

        int night() {
            if (so == null) {
                return STATE;
            }
            nights++;
            int lost = 0;
            for (Person p : all) {
                lost += p.night();
            }
            return lost;
        }

        int say(int[] a) {
            if (noPlace(a[0], a[1])) {
                return UNKNOWN;
            }
            if (a[2] < 0 || a[2] > 4) {
                return OUTSIDE;
            }
            if (said.size() == 6) {
                return FULL;
            }
            said.add(new int[] {a[0], a[1], a[2]});
            return said.size();
        }

        int image() {
            if (so == null) {
                return STATE;
            }
            keptAll = twins(all);
            keptSaid = new ArrayList<>(said);
            keptNights = nights;
            return nights;
        }

        int restore() {
            if (keptAll == null) {
                return STATE;
            }
            all = twins(keptAll);
            said = new ArrayList<>(keptSaid);
            nights = keptNights;
            return nights;
        }
    }

    private static long call(LedWitness x, int promise, int[] a) {
        switch (promise) {
            case 2: return x.letter(a[0]);
            case 3: return x.blank();
            case 4: return x.fault();
            case 5: return x.open();
            case 6: return x.feature(a[0], a[1]);
            case 7: return x.witness(a[0]);
            case 8: return x.about(a[0], a[1]);
            case 9: return x.as(a[0], a[1]);
            case 10: return x.saw(a[0], a[1], a[2], a[3]);
            case 11: return x.ask(a[0], a[1]);
            case 12: return x.lead(a[0], a[1], a[2], a[3]);
            case 13: return x.talk(a[0], a[1]);
            case 14: return x.night();
            case 15: return x.word(a[0], a[1], a[2]);
            case 16: return x.corridor(a[0]);
            case 17: return x.say(a[0], a[1], a[2]);
            case 18: return x.forget();
            case 19: return x.led(a[0], a[1]);
            case 20: return x.weeks(a[0], a[1], a[2]);
            case 21: return x.image();
            case 22: return x.restore();
            case 23: return x.count(a[0]);
            default: return x.digest();
        }
    }

    /** Below which number the arguments of a call are drawn, most of the time, from the least one on. */
    private static int[][] ranges(int promise) {
        int[] w = {0, 4}, f = {0, 6}, thing = {0, 4};
        switch (promise) {
            case 2: return new int[][] {{32, 127}};
            case 6: return new int[][] {f, thing};
            case 7: return new int[][] {{0, 5}};
            case 8: return new int[][] {w, {0, 36}};
            case 9: return new int[][] {w, {0, 5}};
            case 10: return new int[][] {w, f, thing, {0, 10}};
            case 11: return new int[][] {w, f};
            case 12: return new int[][] {w, f, thing, {1, 6}};
            case 13: return new int[][] {w, w};
            case 15: return new int[][] {w, f, thing};
            case 16: return new int[][] {{9, 16}};
            case 17: return new int[][] {w, f, {0, 5}};
            case 19: return new int[][] {w, {0, 2}};
            case 20: return new int[][] {{1, 61}, {0, Integer.MAX_VALUE}, {0, 3}};
            case 23: return new int[][] {{0, 9}};
            default: return new int[][] {};
        }
    }

    private static final int[] ODD = {-1, 0, 1, 4, 5, 6, 7, 9, 10, 16, 40, 60, 61, 126, 127,
        Integer.MIN_VALUE, Integer.MAX_VALUE, -101};

    private static int[] arguments(Random random, int promise) {
        int[][] ranges = ranges(promise);
        int[] a = new int[ranges.length];
        for (int i = 0; i < a.length; i++) {
            a[i] = ranges[i][0] + random.nextInt(ranges[i][1] - ranges[i][0]);
            if (random.nextInt(25) == 0) {
                a[i] = ODD[random.nextInt(ODD.length)];
            }
        }
        return a;
    }

    /** How often each promise is called, so that witnesses live long enough to talk. */
    private static final int[] OFTEN = {0, 0, 3, 1, 1, 1, 4, 4, 6, 2, 10, 5, 12, 10, 4, 5, 1, 4, 1, 4, 4, 1, 1, 3, 3};

    private static int drawPromise(Random random) {
        int sum = Arrays.stream(OFTEN).sum();
        int at = random.nextInt(sum);
        int promise = 0;
        while (at >= OFTEN[promise]) {
            at -= OFTEN[promise];
            promise++;
        }
        return promise;
    }

    private static final List<String> log = new ArrayList<>();

    private static boolean same(LedWitness x, Model m, int promise, int... a) {
        long want = m.call(promise, a);
        long got = call(x, promise, a);
        log.add("promise " + promise + Arrays.toString(a) + " = " + got);
        if (got == want) {
            return true;
        }
        System.out.println(String.join("\n", log));
        System.out.println("the last one is " + want + " by the model");
        return false;
    }

    private static boolean openCase(LedWitness x, Model m, Random random) {
        boolean fine = same(x, m, 3);
        for (int i = 0; i < 8 && fine; i++) {
            int code = i < 6 ? 'a' + random.nextInt(4) : i == 6 ? ';' : '0' + random.nextInt(5);
            fine = same(x, m, 2, random.nextInt(60) == 0 ? 32 + random.nextInt(95) : code);
        }
        fine = fine && same(x, m, 4) && same(x, m, 5);
        int people = random.nextInt(5);
        for (int i = 0; i < people && fine; i++) {
            fine = same(x, m, 7, random.nextInt(5));
        }
        return fine;
    }

    private static boolean run(int seed) {
        Random random = new Random(seed);
        LedWitness x = new LedWitness();
        Model m = new Model();
        log.clear();
        boolean fine = true;
        for (int i = 0; i < CALLS && fine; i++) {
            boolean opens = random.nextInt(150) == 0 || i == 5;
            if (opens) {
                fine = openCase(x, m, random);
            } else {
                int promise = drawPromise(random);
                fine = same(x, m, promise, arguments(random, promise));
            }
        }
        return fine && same(x, m, 24);
    }

    public static void main(String[] args) {
        for (int seed = 0; seed < RUNS; seed++) {
            if (!run(seed)) {
                System.out.println("run " + seed + " is not as the model's");
                System.exit(1);
            }
        }
        System.out.println(RUNS + " runs are as the model's");
    }
}
