import java.util.ArrayList;
import java.util.Arrays;
import java.util.HashMap;
import java.util.List;
import java.util.Map;
import java.util.regex.Matcher;
import java.util.regex.Pattern;

/**
 * The document's words once more, as slowly and plainly as they stand there:
 * fractions for degrees, every minute looked at, every plan tried. It shares no
 * code and no short cut with the program, which ReferenceTest holds against it.
 */
final class Model {
    static final int LAST = 19999;
    static final int BAD = -1000000001;
    static final long BAD_LONG = -4000000000000000001L;
    private static final String NUMBER = "(?:0|[1-9][0-9]{0,2})";
    private static final Pattern FORM = Pattern.compile("(?:p" + NUMBER + " " + NUMBER + " " + NUMBER + "[+-]?;|l"
            + NUMBER + ";|w" + NUMBER + " " + NUMBER + " " + NUMBER + ";)+", Pattern.DOTALL);

    record Fraction(long above, long below) {
        static Fraction of(long whole) {
            return new Fraction(whole, 1);
        }

        Fraction plus(Fraction other) {
            return new Fraction(above * other.below + other.above * below, below * other.below).least();
        }

        Fraction times(long n) {
            return new Fraction(above * n, below).least();
        }

        Fraction least() {
            long a = Math.abs(above);
            long b = below;
            while (a != 0) {
                long rest = b % a;
                b = a;
                a = rest;
            }
            return new Fraction(above / b, below / b);
        }

        long floor() {
            return Math.floorDiv(above, below);
        }

        /** 360 more or less till it is 0 or more, below 360. */
        Fraction round360() {
            Fraction x = this;
            while (x.above < 0) {
                x = x.plus(of(360));
            }
            while (x.above >= 360 * x.below) {
                x = x.plus(of(-360));
            }
            return x;
        }
    }

    static final class Place {
        int degree;
        int rule;
        int choice;
        int people;

        Place(int degree, int rule, int people, int choice) {
            this.degree = degree;
            this.rule = rule;
            this.people = people;
            this.choice = choice;
        }
    }

    record Leg(int to, boolean east, int from, int hours) {
        int end() {
            return from + 60 * hours;
        }
    }

    static final class Person {
        final int number;
        final int kind;
        final int home;
        final int stay;
        List<Leg> legs = new ArrayList<>();
        List<int[]> changes = new ArrayList<>();

        Person(int number, int kind, int home, int stay) {
            this.number = number;
            this.kind = kind;
            this.home = home;
            this.stay = stay;
        }

        Person twin() {
            Person p = new Person(number, kind, home, stay);
            p.legs.addAll(legs);
            p.changes.addAll(changes);
            return p;
        }

        int weight(int asKind) {
            return switch (asKind) {
                case 0 -> 10 + legs.size();
                case 1 -> weight(0) + 1;
                case 2 -> 2 * weight(0);
                case 3 -> weight(0) + home;
                case 4 -> weight(1) + changes.size();
                case 5 -> 2 * weight(1);
                case 6 -> weight(2) + stay;
                default -> weight(3) + 100;
            };
        }
    }

    static final class State {
        List<Place> places = new ArrayList<>();
        int[][] trades = new int[10][10];
        int line = 180;
        List<Person> people = new ArrayList<>();

        State twin() {
            State s = new State();
            for (Place p : places) {
                s.places.add(new Place(p.degree, p.rule, p.people, p.choice));
            }
            for (int i = 0; i < 10; i++) {
                s.trades[i] = trades[i].clone();
            }
            s.line = line;
            for (Person p : people) {
                s.people.add(p.twin());
            }
            return s;
        }
    }

    static final class Row {
        final int sort;
        final long[] v;

        Row(int sort, int n) {
            this.sort = sort;
            v = new long[n];
        }

        long least() {
            return sort == 0 ? Byte.MIN_VALUE : sort == 1 ? Short.MIN_VALUE : Integer.MIN_VALUE;
        }
    }

    State s = new State();
    State image;
    /** Days of a traveller by a kind at all minutes, as long as nothing is changed. */
    private final Map<Integer, long[]> known = new HashMap<>();
    final Object[] shelves = new Object[8];

    boolean place(int p) {
        return p >= 0 && p < s.places.size();
    }

    static boolean minute(long t) {
        return t >= 0 && t <= LAST;
    }

    static boolean kind(int k) {
        return k >= 0 && k <= 7;
    }

    boolean person(int k) {
        return k >= 0 && k < s.people.size();
    }

    static boolean shelf(int d) {
        return d >= 0 && d <= 7;
    }

    static boolean degree(int x) {
        return x >= 0 && x <= 359;
    }

    // ---- worlds

    int world(int d) {
        changed();
        if (!shelf(d)) return -1;
        if (shelves[d] == null) return -11;
        if (!(shelves[d] instanceof Row r) || r.sort != 0) return -12;
        StringBuilder text = new StringBuilder();
        for (long b : r.v) text.append((char) (b & 255));
        int fault = formFault(text.toString());
        if (fault >= 0) return -1000 - fault;
        State after = s.twin();
        int at = 0;
        String[] statements = text.toString().split(";");
        for (String statement : statements) {
            if (!make(after, statement)) return -2000 - at;
            at += statement.length() + 1;
        }
        // the persons stay themselves: a shelf may hold them
        after.people = s.people;
        s = after;
        return statements.length;
    }

    private static int formFault(String text) {
        for (int n = 1; n <= text.length(); n++) {
            Matcher m = FORM.matcher(text.substring(0, n));
            if (!m.matches() && !m.hitEnd()) return n - 1;
        }
        return FORM.matcher(text).matches() ? -1 : text.length();
    }

    private static boolean make(State to, String statement) {
        String rest = statement.substring(1);
        int choice = rest.endsWith("+") ? 1 : rest.endsWith("-") ? -1 : 0;
        if (choice != 0) rest = rest.substring(0, rest.length() - 1);
        int[] n = Arrays.stream(rest.split(" ")).mapToInt(Integer::parseInt).toArray();
        int size = to.places.size();
        switch (statement.charAt(0)) {
            case 'p':
                if (n[0] > 359 || n[1] > 2 || size == 10) return false;
                to.places.add(new Place(n[0], n[1], n[2], choice));
                return true;
            case 'l':
                if (n[0] > 359) return false;
                to.line = n[0];
                return true;
            default:
                if (n[0] >= size || n[1] >= size || n[0] == n[1] || n[2] > 99) return false;
                to.trades[n[0]][n[1]] = n[2];
                to.trades[n[1]][n[0]] = n[2];
                return true;
        }
    }

    int place(int p, int what) {
        if (!place(p) || what < 0 || what > 3) return BAD;
        Place x = s.places.get(p);
        return new int[] {x.degree, x.rule, x.choice, x.people}[what];
    }

    int trade(int a, int b) {
        return !place(a) || !place(b) || a == b ? -1 : s.trades[a][b];
    }

    int choose(int p, int n) {
        changed();
        if (!place(p) || n < -1 || n > 1) return BAD;
        int was = s.places.get(p).choice;
        s.places.get(p).choice = n;
        return was;
    }

    int line(int x) {
        changed();
        if (!degree(x)) return -1;
        int was = s.line;
        s.line = x;
        return was;
    }

    static Fraction east(Fraction x, int line) {
        return x.plus(Fraction.of(-line)).round360();
    }

    static long dayAt(Fraction x, int line, int rule, int t) {
        long more = rule == 1 ? 360 : rule == 2 ? -360 : 0;
        Fraction f = Fraction.of(t - 720 + more).plus(east(x, line).times(4));
        return new Fraction(f.above(), f.below() * 1440).floor();
    }

    long dayIn(int p, int line, int t) {
        Place x = s.places.get(p);
        return dayAt(Fraction.of(x.degree), line, x.rule, t) + x.choice;
    }

    int dayOf(int p, int t) {
        return !place(p) || !minute(t) ? BAD : (int) dayIn(p, s.line, t);
    }

    int hourOf(int p, int t) {
        if (!place(p) || !minute(t)) return -1;
        long m = t + 4 * east(Fraction.of(s.places.get(p).degree), s.line).floor() - 720;
        while (m < 0) m += 1440;
        while (m >= 1440) m -= 1440;
        return (int) m;
    }

    // ---- travellers

    int traveller(int kind, int home, int stay) {
        changed();
        if (!kind(kind) || !place(home) || stay < 0 || stay > 30) return -1;
        if (s.people.size() == 8) return -2;
        s.people.add(new Person(s.people.size(), kind, home, stay));
        return s.people.size() - 1;
    }

    int leg(int k, int to, boolean east, int from, int hours) {
        changed();
        if (!person(k) || !place(to) || !minute(from) || hours < 1 || hours > 200) return -1;
        List<Leg> legs = s.people.get(k).legs;
        if (legs.size() == 6) return -2;
        if (!legs.isEmpty() && from < legs.get(legs.size() - 1).end()) return -3;
        legs.add(new Leg(to, east, from, hours));
        return legs.size();
    }

    int captain(int k, int t, int by) {
        changed();
        if (!person(k) || !minute(t) || Math.abs((long) by) != 1) return -1;
        Person p = s.people.get(k);
        if (p.changes.size() == 8) return -2;
        if (p.kind != 4) return -3;
        p.changes.add(new int[] {t, by});
        return p.changes.size();
    }

    /** The place one is in at t, or -4. */
    int placeAt(Person p, int t) {
        int at = p.home;
        for (Leg l : p.legs) {
            if (t > l.from && t < l.end()) return -4;
            if (t >= l.end()) at = l.to;
        }
        return at;
    }

    Fraction gone(Person p, int t) {
        Fraction sum = Fraction.of(0);
        int at = p.home;
        for (Leg l : p.legs) {
            if (t <= l.from) break;
            long way = (l.east ? 1 : -1) * (long) s.places.get(l.to).degree - (l.east ? 1 : -1) * s.places.get(at).degree;
            way = Math.floorMod(way, 360L) * (l.east ? 1 : -1);
            long minutes = Math.min(t, l.end()) - l.from;
            sum = sum.plus(new Fraction(way * minutes, l.end() - l.from));
            at = l.to;
        }
        return sum;
    }

    Fraction whereIs(Person p, int t) {
        return Fraction.of(s.places.get(p.home).degree).plus(gone(p, t)).round360();
    }

    long hereDay(Person p, int t) {
        int at = placeAt(p, t);
        return at >= 0 ? dayIn(at, s.line, t) : dayAt(whereIs(p, t), s.line, 0, t);
    }

    Fraction homeAndGone(Person p, int t) {
        return east(Fraction.of(s.places.get(p.home).degree), s.line).plus(gone(p, t));
    }

    long roundsOf(Person p, int t) {
        Fraction f = homeAndGone(p, t);
        return new Fraction(f.above(), f.below() * 360).floor();
    }

    long told(Person p, int kind, int t) {
        switch (kind) {
            case 0:
                return dayAt(whereIs(p, t), s.line, 0, t);
            case 1:
                Fraction f = homeAndGone(p, t).times(4).plus(Fraction.of(t - 720 + 360));
                return new Fraction(f.above(), f.below() * 1440).floor();
            case 2:
                return hereDay(p, t);
            case 3:
                return dayIn(p.home, s.line, t);
            case 4:
                return told(p, 1, t) + p.changes.stream().filter(c -> c[0] <= t).mapToInt(c -> c[1]).sum();
            case 5:
                return told(p, 1, t) - roundsOf(p, t);
            case 6:
                int at = placeAt(p, t);
                if (at < 0 || at == p.home) return told(p, 3, t);
                int came = 0;
                for (Leg l : p.legs) if (l.to == at && l.end() <= t) came = l.end();
                return told(p, t >= came + 1440 * p.stay ? 2 : 3, t);
            default:
                return told(p, 3, t) + (placeAt(p, t) < 0 ? 1 : 0);
        }
    }

    private long[] days(int k, int kind) {
        return known.computeIfAbsent(8 * k + kind, key -> {
            long[] days = new long[LAST + 1];
            for (int t = 0; t <= LAST; t++) days[t] = told(s.people.get(k), kind, t);
            return days;
        });
    }

    private void changed() {
        known.clear();
    }

    /** For the calls that look at many minutes. */
    long own(int k, int t) {
        return days(k, s.people.get(k).kind)[t];
    }

    long where(int k, int t, int part) {
        if (!person(k) || !minute(t) || part < 0 || part > 1) return BAD_LONG;
        Fraction f = whereIs(s.people.get(k), t).least();
        return part == 0 ? f.above() : f.below();
    }

    int in(int k, int t) {
        return !person(k) || !minute(t) ? -1 : placeAt(s.people.get(k), t);
    }

    int day(int k, int t) {
        return !person(k) || !minute(t) ? BAD : (int) told(s.people.get(k), s.people.get(k).kind, t);
    }

    int dayBy(int k, int kind, int t) {
        return !person(k) || !kind(kind) || !minute(t) ? BAD : (int) told(s.people.get(k), kind, t);
    }

    int gain(int k, int kind, int t) {
        if (!person(k) || !kind(kind) || !minute(t)) return BAD;
        return (int) (told(s.people.get(k), kind, t) - dayIn(s.people.get(k).home, s.line, t));
    }

    // ---- days

    int begins(int k, int t) {
        if (!person(k) || !minute(t)) return -1;
        long day = own(k, t);
        for (int m = t + 1; m <= LAST; m++) if (own(k, m) != day) return m;
        return -4;
    }

    int longDay(int k, int t) {
        int end = begins(k, t);
        if (end < 0) return end;
        long day = own(k, t);
        int begun = t;
        while (begun > 0 && own(k, begun - 1) == day) begun--;
        return end - begun;
    }

    int often(int k, int day, int t) {
        if (!person(k) || !minute(t)) return -1;
        int spells = 0;
        boolean before = false;
        for (int m = 0; m <= t; m++) {
            boolean is = own(k, m) == day;
            if (is && !before) spells++;
            before = is;
        }
        return spells;
    }

    int duty(int k, int t, int n) {
        if (!person(k) || !minute(t) || n < 0 || n > 10) return -1;
        long due = own(k, t) + n;
        for (int m = t; m <= LAST; m++) if (own(k, m) >= due) return m;
        return -4;
    }

    int differ(int a, int b, int t) {
        return !person(a) || !person(b) || !minute(t) ? BAD : (int) (own(a, t) - own(b, t));
    }

    int agree(int a, int b, int t) {
        if (!person(a) || !person(b) || !minute(t)) return -1;
        for (int m = t; m <= LAST; m++) if (own(a, m) == own(b, m)) return m;
        return -4;
    }

    int part(int k, int one, int other, int t) {
        if (!person(k) || !kind(one) || !kind(other) || one == other || !minute(t)) return -1;
        for (int m = t; m <= LAST; m++) if (days(k, one)[m] != days(k, other)[m]) return m;
        return -4;
    }

    // ---- lines

    int wrong(int x, int t) {
        if (!degree(x) || !minute(t)) return -1;
        int sum = 0;
        for (int a = 0; a < s.places.size(); a++)
            for (int b = 0; b < a; b++)
                if (dayIn(a, x, t) != dayIn(b, x, t))
                    sum += s.trades[a][b] * (s.places.get(a).people + s.places.get(b).people);
        return sum;
    }

    int bestLine(int t, int what) {
        if (!minute(t) || what < 0 || what > 1) return -1;
        int best = 345;
        for (int x = 345; x >= 0; x -= 15) if (wrong(x, t) <= wrong(best, t)) best = x;
        return what == 0 ? best : wrong(best, t);
    }

    int moved(int x, int t) {
        if (!degree(x) || !minute(t)) return -1;
        int bits = 0;
        for (int p = 0; p < s.places.size(); p++) if (dayIn(p, x, t) != dayIn(p, s.line, t)) bits += 1 << p;
        return bits;
    }

    // ---- told days, duties

    int judge(int k, int d, int t, int n) {
        if (!person(k) || !shelf(d) || !minute(t) || n < 1 || n > 9999) return -1;
        if (shelves[d] instanceof Row r)
            for (int i = 0; i < r.v.length; i++) if (!minute(t + (long) i * n)) return -1;
        if (shelves[d] == null) return -11;
        if (!(shelves[d] instanceof Row r)) return -12;
        for (int i = 0; i < r.v.length; i++) if (r.v[i] != r.least() && r.v[i] != own(k, t + i * n)) return i;
        return -4;
    }

    private int dutyRefusal(int k, int d, int rest) {
        if (!person(k) || !shelf(d) || rest < 0 || rest > 6) return -1;
        if (shelves[d] == null) return -11;
        if (!(shelves[d] instanceof Row r) || r.sort != 2) return -12;
        for (long m : r.v) if (!minute(m)) return -13;
        return 0;
    }

    private int keptBy(Person p, Row r, int rest) {
        for (int i = 0; i < r.v.length; i++) {
            int t = (int) r.v[i];
            if (Math.floorMod(hereDay(p, t), 7L) == rest && placeAt(p, t) == -4) return i;
        }
        return -4;
    }

    int kept(int k, int d, int rest) {
        int refusal = dutyRefusal(k, d, rest);
        return refusal != 0 ? refusal : keptBy(s.people.get(k), (Row) shelves[d], rest);
    }

    int rounds(int k, int t) {
        return !person(k) || !minute(t) ? BAD : (int) roundsOf(s.people.get(k), t);
    }

    int log(int k, int d) {
        if (!person(k) || !shelf(d)) return -1;
        if (shelves[d] == null) return -11;
        if (!(shelves[d] instanceof Row r)) return -12;
        if (r.v.length % 2 == 1) return -13;
        int bits = 0;
        for (int shift = -3; shift <= 3; shift++) {
            boolean all = true;
            for (int i = 0; i < r.v.length; i += 2) {
                if (r.v[i] == r.least() || r.v[i + 1] == r.least()) continue;
                if (!minute(r.v[i])) return -13;
                all &= r.v[i + 1] == told(s.people.get(k), 1, (int) r.v[i]) - shift;
            }
            if (all) bits |= 1 << shift + 3;
        }
        return bits;
    }

    int plan(int k, int d, int rest) {
        int refusal = dutyRefusal(k, d, rest);
        if (refusal != 0) return refusal;
        Person p = s.people.get(k);
        for (int bits = 0; bits < 1 << p.legs.size(); bits++) {
            Person mind = p.twin();
            for (int i = 0; i < p.legs.size(); i++) {
                Leg l = p.legs.get(i);
                mind.legs.set(i, new Leg(l.to, (bits >> i & 1) == 1, l.from, l.hours));
            }
            if (keptBy(mind, (Row) shelves[d], rest) == -4) return bits;
        }
        return -4;
    }

    // ---- the image, what is told

    int image() {
        image = s.twin();
        return s.people.size();
    }

    int restore() {
        changed();
        if (image == null) return -3;
        s = image.twin();
        return s.people.size();
    }

    int count(int what) {
        switch (what) {
            case 0:
                return s.places.size();
            case 1:
                return s.people.size();
            case 2:
                return s.people.stream().mapToInt(p -> p.legs.size()).sum();
            case 3:
                return s.line;
            case 4:
                return s.places.stream().mapToInt(p -> p.people).sum();
            case 5:
                return (int) Arrays.stream(s.trades).flatMapToInt(Arrays::stream).filter(x -> x > 0).count() / 2;
            default:
                return -1;
        }
    }

    // ---- shelves

    int keep(int d, int what, int k) {
        if (!shelf(d) || what < 0 || what > 1 || what == 1 && !person(k)) return -1;
        shelves[d] = what == 0 ? null : s.people.get(k);
        return 0;
    }

    int row(int d, int sort, int n) {
        if (!shelf(d) || sort < 0 || sort > 2 || n > 100) return -1;
        if (n < 0) return -14;
        shelves[d] = new Row(sort, n);
        return 0;
    }

    int put(int d, int i, int v) {
        if (!shelf(d)) return -1;
        if (shelves[d] == null) return -11;
        if (!(shelves[d] instanceof Row r)) return -12;
        if (i < 0 || i >= r.v.length) return -13;
        r.v[i] = r.sort == 0 ? (byte) v : r.sort == 1 ? (short) v : v;
        return 0;
    }

    /** What is thrown is told as a number that no element is. */
    long element(int d, int i) {
        if (!shelf(d)) return Long.MIN_VALUE;
        if (!(shelves[d] instanceof Row r) || i < 0 || i >= r.v.length) return Long.MAX_VALUE;
        return r.v[i];
    }

    int copy(int d, int i, int e, int j, int n) {
        if (!shelf(d) || !shelf(e)) return -1;
        if (shelves[d] == null || shelves[e] == null) return -11;
        if (!(shelves[d] instanceof Row a) || !(shelves[e] instanceof Row b) || a.sort != b.sort) return -12;
        if (i < 0 || j < 0 || n < 0 || (long) i + n > a.v.length || (long) j + n > b.v.length) return -13;
        long[] between = Arrays.copyOfRange(a.v, i, i + n);
        for (int x = 0; x < n; x++) b.v[j + x] = between[x];
        return n;
    }

    int weight(int d) {
        if (!shelf(d)) return -1;
        if (shelves[d] == null) return -11;
        return shelves[d] instanceof Person p ? p.weight(p.kind) : -12;
    }

    int toss(int d) {
        if (!shelf(d)) return -1;
        if (shelves[d] == null) return -11;
        if (!(shelves[d] instanceof Person p)) return -12;
        if (p.legs.isEmpty() || p.kind == 3 || p.kind == 7) return -15;
        return p.kind == 6 ? 200 + p.stay : p.kind == 4 ? 100 + p.number : p.number;
    }
}
