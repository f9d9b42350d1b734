import java.util.ArrayList;
import java.util.List;
import java.util.Random;
import java.util.stream.IntStream;

/** Made-up runs of calls, each answered by the program and by the Model; the same runs every time. */
public final class ReferenceTest {
    private static final int RUNS = Integer.getInteger("runs", 2000);
    private static final int FIRST_RUN = Integer.getInteger("first", 0);
    private static final int CALLS = 512;
    private static final int[] ODD = {-1, -2, Integer.MIN_VALUE, Integer.MAX_VALUE, 10, 8, 7, 6, 11, 20000, 19999, 360,
        359, 101, 100, 201, 31, 1000};

    private final int run;
    private final Random random;
    private final WhichDay x = new WhichDay();
    private final Model m = new Model();
    private final List<String> calls = new ArrayList<>();
    private boolean failed = false;

    private ReferenceTest(int run) {
        this.run = run;
        this.random = new Random(31L * run + 7);
    }

    public static void main(String[] args) {
        long wrong = IntStream.range(FIRST_RUN, FIRST_RUN + RUNS).parallel().filter(run -> !new ReferenceTest(run).isWell()).count();
        System.out.println(wrong == 0 ? RUNS + " runs as the model answers" : wrong + " runs are not as the model answers");
        if (wrong != 0) System.exit(1);
    }

    private boolean isWell() {
        if (run % 8 != 0) setOut();
        while (calls.size() < CALLS && !failed) {
            int some = 1 + random.nextInt(40);
            boolean changing = random.nextBoolean();
            for (int i = 0; i < some && calls.size() < CALLS && !failed; i++) {
                if (changing) change(); else ask();
            }
        }
        return !failed;
    }

    private void same(String name, long got, long want, Object... args) {
        StringBuilder call = new StringBuilder(name).append('(');
        for (int i = 0; i < args.length; i++) call.append(i == 0 ? "" : ", ").append(args[i]);
        call.append(')');
        calls.add(call.toString());
        if (got != want && !failed) {
            failed = true;
            synchronized (System.out) {
                System.out.println("run " + run + ": call " + calls.size() + " " + call + " answered " + got + ", due is " + want);
                for (String c : calls) if (Boolean.getBoolean("all")) System.out.println("    " + c);
            }
        }
    }

    // ---- numbers

    private boolean rarely() {
        return random.nextInt(40) == 0;
    }

    private int odd() {
        return ODD[random.nextInt(ODD.length)];
    }

    private int below(int n) {
        return rarely() ? odd() : random.nextInt(Math.max(1, n));
    }

    private int from(int a, int b) {
        return rarely() ? odd() : a + random.nextInt(b - a + 1);
    }

    private int place() {
        return below(m.s.places.size());
    }

    private int person() {
        return below(m.s.people.size());
    }

    private int shelf() {
        return below(8);
    }

    private int kind() {
        return below(8);
    }

    /** Often a minute at which something happens, or one beside it. */
    private int minute() {
        if (rarely()) return odd();
        switch (random.nextInt(6)) {
            case 0:
                return random.nextBoolean() ? 0 : Model.LAST - random.nextInt(3);
            case 1:
            case 2:
                if (m.s.people.isEmpty()) return 0;
                Model.Person p = m.s.people.get(random.nextInt(m.s.people.size()));
                if (p.legs.isEmpty()) return random.nextInt(20000);
                Model.Leg l = p.legs.get(random.nextInt(p.legs.size()));
                int t = (random.nextBoolean() ? l.from() : l.end()) + random.nextInt(3) - 1
                        + (random.nextInt(4) == 0 ? 1440 * p.stay : 0);
                return Math.max(0, Math.min(Model.LAST, t));
            default:
                return random.nextInt(20000);
        }
    }

    private int degree() {
        return random.nextBoolean() ? from(0, 359) : 15 * random.nextInt(24);
    }

    /** Without it most calls of a short run would ask for what isn't there. */
    private void setOut() {
        int places = 2 + random.nextInt(5);
        for (int i = 0; i < 10 && m.s.places.size() < places && !failed; i++) text();
        int people = 1 + random.nextInt(6);
        for (int i = 0; i < people; i++) traveller();
        for (int i = 0; i < 4 * people; i++) leg();
        for (int i = 0; i < 3; i++) captain();
    }

    // ---- calls that change something

    private void change() {
        if (m.s.places.size() < 2 + random.nextInt(8) && random.nextInt(8) == 0) text();
        switch (random.nextInt(15)) {
            case 0:
                if (random.nextInt(3) == 0) text();
                break;
            case 1:
            case 2:
                traveller();
                break;
            case 3:
            case 4:
            case 5:
            case 6:
                leg();
                break;
            case 7:
                captain();
                break;
            case 8:
                int p = place(), n = from(-1, 1);
                same("choose", x.choose(p, n), m.choose(p, n), p, n);
                break;
            case 9:
                int g = degree();
                same("line", x.line(g), m.line(g), g);
                break;
            case 10:
                int d = shelf(), what = below(2), k = person();
                same("keep", x.keep(d, what, k), m.keep(d, what, k), d, what, k);
                break;
            case 11:
                if (random.nextInt(6) == 0) same("image", x.image(), m.image());
                break;
            case 12:
                if (random.nextInt(m.image == null ? 40 : 4) == 0) same("restore", x.restore(), m.restore());
                break;
            case 13:
                anyRow();
                break;
            default:
                copy();
                break;
        }
    }

    private void traveller() {
        int kind = kind(), home = place(), stay = from(0, random.nextBoolean() ? 3 : 30);
        same("traveller", x.traveller(kind, home, stay), m.traveller(kind, home, stay), kind, home, stay);
    }

    private void leg() {
        int k = person(), to = place();
        boolean east = random.nextBoolean();
        int end = 0;
        if (k >= 0 && k < m.s.people.size() && !m.s.people.get(k).legs.isEmpty()) {
            List<Model.Leg> legs = m.s.people.get(k).legs;
            end = legs.get(legs.size() - 1).end();
        }
        int hours = from(1, random.nextBoolean() ? 20 : 200);
        int from = rarely() ? odd() : random.nextInt(3) == 0 ? end : end + random.nextInt(2500) - (random.nextInt(8) == 0 ? 1 : 0);
        same("leg", x.leg(k, to, east, from, hours), m.leg(k, to, east, from, hours), k, to, east, from, hours);
    }

    private void captain() {
        int k = person();
        for (int i = 0; i < m.s.people.size() && !rarely(); i++) if (m.s.people.get(i).kind == 4) k = i;
        int t = minute(), by = rarely() ? odd() : random.nextInt(20) == 0 ? 0 : random.nextBoolean() ? 1 : -1;
        same("captain", x.captain(k, t, by), m.captain(k, t, by), k, t, by);
    }

    private int newRow(int d, int sort, int n) {
        int got = x.row(d, sort, n);
        same("row", got, m.row(d, sort, n), d, sort, n);
        return got;
    }

    private void put(int d, int i, int v) {
        same("put", x.put(d, i, v), m.put(d, i, v), d, i, v);
    }

    private void anyRow() {
        int d = shelf(), n = rarely() ? from(-2, 102) : random.nextInt(9);
        if (newRow(d, below(3), n) == 0) {
            for (int i = 0; i < n; i++) put(d, i, rarely() ? random.nextInt() : random.nextInt(20) - 5);
        }
        put(shelf(), below(10), random.nextInt());
    }

    private void copy() {
        int d = shelf(), e = random.nextInt(3) == 0 ? d : shelf(), i = below(6), j = below(6), n = from(-1, 5);
        same("copy", x.copy(d, i, e, j, n), m.copy(d, i, e, j, n), d, i, e, j, n);
        for (int at = 0; at < 8; at++) element(e, at);
    }

    private void element(int d, int i) {
        long got;
        try {
            got = x.element(d, i);
        } catch (IllegalArgumentException wrong) {
            got = Long.MIN_VALUE;
        } catch (IllegalStateException wrong) {
            got = Long.MAX_VALUE;
        }
        same("element", got, m.element(d, i), d, i);
    }

    // ---- a world's text

    private String number(int n) {
        return rarely() ? new String[] {"", "00", "01", "999", "1000", "360", "x", "3", "100", "10"}[random.nextInt(10)]
                : Integer.toString(random.nextInt(n));
    }

    private String statement(int places) {
        switch (random.nextInt(6)) {
            case 0:
                return "l" + number(360) + ";";
            case 1:
            case 2:
                if (places > 1) return "w" + number(places) + " " + number(places) + " " + number(100) + ";";
                // no two places to trade yet
            default:
                return "p" + number(360) + " " + number(3) + " " + number(1000) + new String[] {"", "", "+", "-"}[random.nextInt(4)] + ";";
        }
    }

    private void text() {
        StringBuilder s = new StringBuilder();
        int n = 1 + random.nextInt(5);
        for (int i = 0; i < n; i++) s.append(statement(m.s.places.size() + i));
        if (random.nextInt(6) == 0) {
            int at = random.nextInt(s.length());
            switch (random.nextInt(3)) {
                case 0 -> s.setLength(at);
                case 1 -> s.deleteCharAt(at);
                default -> s.setCharAt(at, (char) ("plw0123456789 ;+-".charAt(random.nextInt(17)) + (rarely() ? 128 : 0)));
            }
        }
        int d = random.nextInt(8);
        newRow(d, rarely() ? 1 : 0, Math.min(100, s.length()));
        for (int i = 0; i < Math.min(100, s.length()); i++) put(d, i, s.charAt(i));
        int at = rarely() ? shelf() : d;
        same("world", x.world(at), m.world(at), at);
        for (int i = 0; i < 6; i++) same("count", x.count(i), m.count(i), i);
    }

    // ---- calls that ask

    private void ask() {
        int k = person(), t = minute();
        switch (random.nextInt(27)) {
            case 0 -> {
                int p = place(), what = below(4);
                same("place", x.place(p, what), m.place(p, what), p, what);
            }
            case 1 -> {
                int a = place(), b = place();
                same("trade", x.trade(a, b), m.trade(a, b), a, b);
            }
            case 2 -> {
                int p = place();
                same("dayOf", x.dayOf(p, t), m.dayOf(p, t), p, t);
                same("hourOf", x.hourOf(p, t), m.hourOf(p, t), p, t);
            }
            case 3, 4 -> {
                int part = below(2);
                same("where", x.where(k, t, part), m.where(k, t, part), k, t, part);
            }
            case 5 -> same("in", x.in(k, t), m.in(k, t), k, t);
            case 6, 7 -> same("day", x.day(k, t), m.day(k, t), k, t);
            case 8, 9 -> {
                int kind = kind();
                same("dayBy", x.dayBy(k, kind, t), m.dayBy(k, kind, t), k, kind, t);
            }
            case 10 -> {
                int kind = kind();
                same("gain", x.gain(k, kind, t), m.gain(k, kind, t), k, kind, t);
            }
            case 11 -> same("begins", x.begins(k, t), m.begins(k, t), k, t);
            case 12 -> same("longDay", x.longDay(k, t), m.longDay(k, t), k, t);
            case 13 -> {
                int day = rarely() ? odd() : random.nextInt(20) - 3;
                same("often", x.often(k, day, t), m.often(k, day, t), k, day, t);
            }
            case 14 -> {
                int n = from(0, 10);
                same("duty", x.duty(k, t, n), m.duty(k, t, n), k, t, n);
            }
            case 15 -> {
                int b = person();
                same("differ", x.differ(k, b, t), m.differ(k, b, t), k, b, t);
                same("agree", x.agree(k, b, t), m.agree(k, b, t), k, b, t);
            }
            case 16 -> {
                int one = kind(), other = kind();
                same("part", x.part(k, one, other, t), m.part(k, one, other, t), k, one, other, t);
            }
            case 17 -> {
                int g = degree();
                same("wrong", x.wrong(g, t), m.wrong(g, t), g, t);
            }
            case 18 -> {
                int what = below(2);
                same("bestLine", x.bestLine(t, what), m.bestLine(t, what), t, what);
            }
            case 19 -> {
                int g = degree();
                same("moved", x.moved(g, t), m.moved(g, t), g, t);
            }
            case 20 -> judge(k, t);
            case 21 -> duties(k);
            case 22 -> same("rounds", x.rounds(k, t), m.rounds(k, t), k, t);
            case 23 -> log(k);
            case 24 -> {
                int what = from(-1, 7);
                same("count", x.count(what), m.count(what), what);
            }
            case 25 -> {
                int d = shelf();
                if (random.nextInt(3) != 0) same("keep", x.keep(d, 1, k), m.keep(d, 1, k), d, 1, k);
                same("weight", x.weight(d), m.weight(d), d);
                same("toss", x.toss(d), m.toss(d), d);
            }
            default -> element(shelf(), from(-1, 9));
        }
    }

    private void judge(int k, int t) {
        int d = shelf(), size = random.nextInt(8), n = from(1, random.nextBoolean() ? 300 : 9999);
        if (random.nextInt(4) != 0 && newRow(d, below(3), size) == 0) {
            for (int i = 0; i < size; i++) {
                long at = t + (long) i * n;
                int day = Model.minute(at) ? m.day(k, (int) at) : 0;
                put(d, i, random.nextInt(5) == 0 ? -128 : rarely() ? day + 1 : day);
            }
        }
        same("judge", x.judge(k, d, t, n), m.judge(k, d, t, n), k, d, t, n);
    }

    private void duties(int k) {
        int d = shelf(), size = random.nextInt(12);
        if (random.nextInt(4) != 0 && newRow(d, rarely() ? 1 : 2, size) == 0) {
            for (int i = 0; i < size; i++) put(d, i, minute());
        }
        for (int rest = -1; rest <= 7; rest++) {
            same("kept", x.kept(k, d, rest), m.kept(k, d, rest), k, d, rest);
            same("plan", x.plan(k, d, rest), m.plan(k, d, rest), k, d, rest);
        }
    }

    private void log(int k) {
        int d = shelf(), pairs = random.nextInt(4), sort = below(3), shift = from(-4, 4);
        if (random.nextInt(4) != 0 && newRow(d, sort, rarely() ? 3 : 2 * pairs) == 0) {
            for (int i = 0; i < pairs; i++) {
                int t = sort == 0 ? random.nextInt(128) : minute();
                put(d, 2 * i, rarely() ? Integer.MIN_VALUE >> (sort == 0 ? 24 : 16) : t);
                int day = Model.minute(t) ? m.dayBy(k, 1, t) - (rarely() ? 0 : shift) : 0;
                put(d, 2 * i + 1, random.nextInt(6) == 0 ? (sort == 0 ? -128 : sort == 1 ? -32768 : Integer.MIN_VALUE) : day);
            }
        }
        same("log", x.log(k, d), m.log(k, d), k, d);
    }
}
