import java.util.Arrays;
import java.util.HashMap;
import java.util.Map;

/**
 * What the tests of boundaries share: which sentence of the document is looked
 * at, what is due, objects to begin with, and a look at what all other calls
 * answer, by which a refused call is seen to change nothing. An object gets no
 * more than the 512 calls for which the document speaks.
 */
abstract class Bench {
    static final int MIN = Integer.MIN_VALUE;
    static final int MAX = Integer.MAX_VALUE;
    static final int LAST = 19999;
    /** -1 where numbers below 0 are answered, and where longs are. */
    static final int BAD = -1000000001;
    static final long BAD_LONG = -4000000000000000001L;
    static final int COUNT = 0, OWN = 1, PLACE = 2, HOME = 3, SHIP = 4, TURN = 5, SETTLED = 6, STRICT = 7;
    static final int BYTES = 0, SHORTS = 1, INTS = 2;

    interface Call {
        long on(WhichDay x);
    }

    interface Recipe {
        WhichDay make();
    }

    /** A call with one number in it, which is tried on, inside and outside its range. */
    interface CallWith {
        long on(WhichDay x, int n);
    }

    static final Recipe SOME = Bench::some;
    static final Recipe FULL = Bench::full;
    static final Recipe FRESH = WhichDay::new;

    private static String sentence = "";
    private static int sentences = 0;
    private static int checks = 0;
    private static int wrong = 0;
    private static final Map<Recipe, long[][]> looks = new HashMap<>();

    static void says(String words) {
        sentence = words;
        sentences++;
    }

    static void due(String what, long want, long got) {
        checks++;
        if (got != want) {
            wrong++;
            System.out.println("'" + sentence + "': " + what + " answered " + got + ", due is " + want);
        }
    }

    static void finish() {
        System.out.println(sentences + " sentences, " + checks + " checks, " + wrong + " of them wrong");
        if (wrong != 0) System.exit(1);
    }

    // ---- refused calls

    /** The call is refused so, and what all other calls answer is as it is without it, before and behind a restore(). */
    static void refused(Recipe recipe, String what, long want, Call call) {
        long[][] before = looks.computeIfAbsent(recipe, r -> new long[][] {look(r.make()), lookRestored(r.make())});
        WhichDay x = recipe.make();
        due(what, want, call.on(x));
        same(what, before[0], look(x));
        WhichDay y = recipe.make();
        call.on(y);
        same(what + ", then restore()", before[1], lookRestored(y));
    }

    /** Refused on each of the numbers. */
    static void refusedFor(Recipe recipe, String what, long want, CallWith call, int... numbers) {
        for (int n : numbers) refused(recipe, what + " with " + n, want, x -> call.on(x, n));
    }

    private static void same(String what, long[] want, long[] got) {
        checks++;
        if (!Arrays.equals(want, got)) {
            wrong++;
            System.out.println("'" + sentence + "': " + what + " changed what is answered at " + Arrays.mismatch(want, got) + " of the look");
        }
    }

    private static long[] lookRestored(WhichDay x) {
        long answer = x.restore();
        long[] seen = look(x);
        long[] all = Arrays.copyOf(seen, seen.length + 1);
        all[seen.length] = answer;
        return all;
    }

    /** Answers of calls that change nothing, on all that there is; some 200 of them. */
    static long[] look(WhichDay x) {
        long[] seen = new long[512];
        int n = 0;
        for (int what = 0; what < 6; what++) seen[n++] = x.count(what);
        int places = x.count(0);
        for (int p = 0; p < places; p++) {
            for (int what = 0; what < 4; what++) seen[n++] = x.place(p, what);
            for (int q = p + 1; q < places; q++) seen[n++] = x.trade(q, p);
        }
        for (int k = 0; k < x.count(1); k++) {
            int t = 1111 * (k + 1);
            seen[n++] = x.day(k, 0);
            seen[n++] = x.day(k, t);
            seen[n++] = x.day(k, LAST);
            seen[n++] = x.in(k, t);
            seen[n++] = x.where(k, t, 0);
            seen[n++] = x.dayBy(k, SHIP, LAST);
            seen[n++] = x.dayBy(k, SETTLED, LAST);
        }
        for (int d = 0; d < 8; d++) {
            seen[n++] = x.weight(d);
            seen[n++] = x.toss(d);
            for (int i = 0; i < 101; i++) {
                seen[n] = element(x, d, i);
                if (seen[n++] == Long.MAX_VALUE) break;
            }
        }
        return Arrays.copyOf(seen, n);
    }

    /** An element, or how its call was refused: IllegalArgumentException as the least long, IllegalStateException as the greatest. */
    static long element(WhichDay x, int d, int i) {
        try {
            return x.element(d, i);
        } catch (IllegalArgumentException e) {
            return Long.MIN_VALUE;
        } catch (IllegalStateException e) {
            return Long.MAX_VALUE;
        }
    }

    // ---- what the tests begin with

    static void text(WhichDay x, int d, String s) {
        x.row(d, BYTES, s.length());
        for (int i = 0; i < s.length(); i++) x.put(d, i, s.charAt(i));
    }

    static int read(WhichDay x, String s) {
        text(x, 7, s);
        return x.world(7);
    }

    static WhichDay with(String s) {
        WhichDay x = new WhichDay();
        int got = read(x, s);
        if (got <= 0) due("the world " + s, 1, got);
        return x;
    }

    static WhichDay with(String s, int kind, int home, int stay) {
        WhichDay x = with(s);
        due("a traveller to begin with", 0, x.traveller(kind, home, stay));
        return x;
    }

    static WhichDay row(WhichDay x, int d, int sort, int... v) {
        x.row(d, sort, v.length);
        for (int i = 0; i < v.length; i++) x.put(d, i, v[i]);
        return x;
    }

    /**
     * A bit of all: three places, a COUNT (0), a SHIP (1), a SETTLED (2); an
     * image, and things done since; on shelf 0 nothing, on 1 the ship, on 2, 3
     * and 4 rows of bytes, shorts, ints (duties), on 5 a row of no ints, on 6
     * the COUNT, on 7 the world's text.
     */
    static WhichDay some() {
        WhichDay x = with("p350 0 9;p10 1 70+;p100 2 500-;w0 1 5;w1 2 99;l170;");
        x.traveller(COUNT, 0, 3);
        x.traveller(SHIP, 1, 2);
        x.traveller(SETTLED, 0, 1);
        x.leg(0, 1, true, 100, 1);
        x.leg(1, 2, false, 1000, 20);
        x.leg(2, 2, true, 60, 1);
        x.captain(1, 500, 1);
        x.image();
        x.choose(0, 1);
        x.line(20);
        x.leg(0, 2, false, 1000, 10);
        x.captain(1, 700, 1);
        x.keep(1, 1, 1);
        row(x, 2, BYTES, 1, -128, 3);
        row(x, 3, SHORTS, 4, 5, 6, 7);
        row(x, 4, INTS, 100, 101, 5000);
        row(x, 5, INTS);
        x.keep(6, 1, 0);
        return x;
    }

    /** No room: ten places, eight travellers (SHIPs), the first with six legs (the last ends at 870) and eight changes. */
    static WhichDay full() {
        WhichDay x = with("p0 0 1;p40 0 1;p80 0 1;p120 0 1;p160 0 1;p200 0 1;p240 0 1;p280 0 1;p320 0 1;p359 2 9;");
        for (int k = 0; k < 8; k++) x.traveller(SHIP, k, k);
        for (int k = 0; k < 6; k++) x.leg(0, k + 1, true, 150 * k, k == 5 ? 2 : 1);
        for (int k = 0; k < 8; k++) x.captain(0, 2000 * k, 1);
        x.image();
        x.keep(7, 1, 0);
        return x;
    }
}
