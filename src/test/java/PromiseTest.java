/**
 * For each promise of the document at least one check that fails if it is
 * broken: ordinary inputs, the edges that the document names, wrong inputs.
 * What is due was worked out by hand from the document.
 */
public final class PromiseTest {
    private static final int MIN = Integer.MIN_VALUE;
    private static final int MAX = Integer.MAX_VALUE;
    private static final int BAD = -1000000001;
    private static final long BAD_LONG = -4000000000000000001L;
    private static final int LAST = 19999;
    private static final int COUNT = 0, OWN = 1, PLACE = 2, HOME = 3, SHIP = 4, TURN = 5, SETTLED = 6, STRICT = 7;
    private static final int[] NO_MINUTES = {-1, LAST + 1, MIN, MAX};

    private static int promise = 0;
    private static int checks = 0;
    private static int wrong = 0;

    public static void main(String[] args) {
        newObject();
        world();
        worldFormFaults();
        worldSenseFaults();
        place();
        trade();
        choose();
        line();
        dayOf();
        hourOf();
        traveller();
        leg();
        captain();
        where();
        in();
        day();
        dayBy();
        gain();
        begins();
        longDay();
        often();
        duty();
        differ();
        agree();
        part();
        wrong();
        bestLine();
        moved();
        judge();
        kept();
        rounds();
        log();
        plan();
        image();
        restore();
        restoreApart();
        count();
        keep();
        row();
        put();
        element();
        copy();
        weight();
        toss();
        System.out.println(checks + " checks, " + wrong + " of them wrong");
        if (wrong != 0) System.exit(1);
    }

    private static void due(String what, long want, long got) {
        checks++;
        if (got != want) {
            wrong++;
            System.out.println("promise " + promise + ": " + what + " answered " + got + ", due is " + want);
        }
    }

    // ---- what the checks begin with

    private static void text(WhichDay x, int d, String s) {
        x.row(d, 0, s.length());
        for (int i = 0; i < s.length(); i++) x.put(d, i, s.charAt(i));
    }

    private static int read(WhichDay x, String s) {
        text(x, 7, s);
        return x.world(7);
    }

    private static WhichDay with(String s) {
        WhichDay x = new WhichDay();
        int got = read(x, s);
        if (got <= 0) due("the world " + s, 1, got);
        x.keep(7, 0, 0);
        return x;
    }

    private static void row(WhichDay x, int d, int sort, int... v) {
        x.row(d, sort, v.length);
        for (int i = 0; i < v.length; i++) x.put(d, i, v[i]);
    }

    /** Of each kind one, of that number; home at 0 degrees; from 1000 to 1600 eastward to 90 degrees. */
    private static WhichDay eastward() {
        WhichDay x = with("p0 0 9;p90 1 7+;");
        for (int kind = 0; kind < 8; kind++) {
            x.traveller(kind, 0, 2);
            x.leg(kind, 1, true, 1000, 10);
        }
        return x;
    }

    /** A traveller 200 degrees round from 0 degrees, in a day, over the line at 180. */
    private static WhichDay overLine(int kind, boolean east) {
        WhichDay x = with(east ? "p0 0 9;p200 0 7;" : "p0 0 9;p160 0 7;");
        x.traveller(kind, 0, 0);
        x.leg(0, 1, east, 0, 24);
        return x;
    }

    /** Settled from 1500 on in a place whose day is one less than home's. */
    private static WhichDay settledBack() {
        WhichDay x = with("p0 0 9;p0 0 9-;");
        x.traveller(SETTLED, 0, 1);
        x.leg(0, 1, true, 0, 1);
        return x;
    }

    /** Two at home, of which the first has day 0 from 0 on, the other one from 720 on. */
    private static WhichDay twoHomes() {
        WhichDay x = with("p0 0 9;p180 0 7;");
        x.traveller(HOME, 0, 0);
        x.traveller(HOME, 1, 0);
        return x;
    }

    // ---- 1 to 8

    private static void newObject() {
        promise = 1;
        WhichDay x = new WhichDay();
        due("count(0)", 0, x.count(0));
        due("count(1)", 0, x.count(1));
        due("count(2)", 0, x.count(2));
        due("count(3)", 180, x.count(3));
        due("count(4)", 0, x.count(4));
        due("count(5)", 0, x.count(5));
        due("place(0, 0)", BAD, x.place(0, 0));
        due("day(0, 0)", BAD, x.day(0, 0));
        due("restore()", -3, x.restore());
        due("bestLine(0, 0)", 0, x.bestLine(0, 0));
        for (int d = 0; d < 8; d++) due("weight", -11, x.weight(d));
    }

    private static void world() {
        promise = 2;
        WhichDay x = new WhichDay();
        due("world of nothing", -11, x.world(0));
        due("world(-1)", -1, x.world(-1));
        due("world(8)", -1, x.world(8));
        due("world(MAX)", -1, x.world(MAX));
        text(x, 3, "p0 0 9;p359 2 999+;p90 1 0-;l7;w0 1 5;w2 0 99;w1 0 6;");
        due("world(3)", 7, x.world(3));
        due("degree", 359, x.place(1, 0));
        due("rule", 2, x.place(1, 1));
        due("choice", 1, x.place(1, 2));
        due("people", 999, x.place(1, 3));
        due("choice", -1, x.place(2, 2));
        due("line", 7, x.count(3));
        due("the last of two trades", 6, x.trade(0, 1));
        due("trade both ways", 99, x.trade(0, 2));
        due("the row stays", 53, sizeOf(x, 3));
        due("world(3) once more", 7, x.world(3));
        due("places more", 6, x.count(0));
        due("people of the fourth", 9, x.place(3, 3));
        x.row(1, 1, 3);
        due("a row of shorts", -12, x.world(1));
        x.row(1, 2, 3);
        due("a row of ints", -12, x.world(1));
        x.traveller(0, 0, 0);
        x.keep(1, 1, 0);
        due("a traveller", -12, x.world(1));
        due("line alone", 1, read(x, "l0;"));
        due("line there", 0, x.count(3));
        due("no trade any more", 1, read(x, "w0 2 0;"));
        due("no trade", 0, x.trade(2, 0));
    }

    private static int sizeOf(WhichDay x, int d) {
        int size = 0;
        while (x.copy(d, size, d, size, 1) == 1) size++;
        return size;
    }

    private static void worldFormFaults() {
        promise = 2;
        String[] texts = {"", "q", "p", "p ", "p1", "p1;", "p01", "p00 0 0;", "p1234", "p1 2 3x;", "p1 2 3+", "p1 2 3+-;",
            "p1 2 3++;", "p1 2 3 ;", "p1  2 3;", "p1 2 ;", "p1 2 1234;", "p1 2 3+4;", "l5 ;", "l5;;", "l5;x", "l5;p", "l5",
            "l;", "l-1;", "w0 1 2+;", "w0 1;", "w0 01 2;", "P1 2 3;", " l5;", "l5; ", "l5;l", "\u00f0", "l\u00ff", "l360;x", "p999 9 9;l01;",
            "l1000;", "l5\0"};
        int[] places = {0, 0, 1, 1, 2, 2, 2, 2, 4, 6, 7, 7,
            7, 6, 3, 5, 8, 7, 2, 3, 3, 4, 2,
            1, 1, 6, 4, 4, 0, 0, 3, 4, 0, 1, 5, 11,
            4, 2};
        for (int i = 0; i < texts.length; i++) {
            WhichDay x = new WhichDay();
            due("\"" + texts[i] + "\"", -1000 - places[i], read(x, texts[i]));
            due("nothing comes", 0, x.count(0));
            due("nothing comes", 180, x.count(3));
        }
    }

    private static void worldSenseFaults() {
        promise = 2;
        String[] texts = {"l360;", "l999;", "p360 0 0;", "p0 3 0;", "l1;p0 10 0;", "w0 1 5;", "p0 0 1;p1 0 1;w0 1 100;",
            "p0 0 1;w0 0 1;", "p0 0 1;w0 1 5;p1 0 1;", "p0 0 1;p1 0 1;w0 2 5;", "p0 0 1;p1 0 1;w10 0 5;", "l1;l2;l360;l361;"};
        int[] places = {0, 0, 0, 0, 3, 0, 14, 7, 7, 14, 14, 6};
        for (int i = 0; i < texts.length; i++) {
            WhichDay x = new WhichDay();
            due("\"" + texts[i] + "\"", -2000 - places[i], read(x, texts[i]));
            due("nothing comes", 0, x.count(0));
            due("nothing comes", 180, x.count(3));
        }
        WhichDay x = new WhichDay();
        due("11 places", -2070, read(x, "p0 0 1;".repeat(11)));
        due("10 places", 10, read(x, "p0 0 1;".repeat(10)));
        due("one more", -2000, read(x, "p0 0 1;"));
        due("one more behind others", -2011, read(x, "l3;w9 8 99;p0 0 1;"));
        due("nothing comes", 0, x.trade(8, 9));
        due("the last two", 1, read(x, "w9 8 99;"));
        due("trade(8, 9)", 99, x.trade(8, 9));
    }

    private static void place() {
        promise = 3;
        WhichDay x = with("p17 2 300-;p4 0 0;");
        due("degree", 17, x.place(0, 0));
        due("rule", 2, x.place(0, 1));
        due("choice", -1, x.place(0, 2));
        due("people", 300, x.place(0, 3));
        due("choice of another", 0, x.place(1, 2));
        due("no such place", BAD, x.place(2, 0));
        due("no such place", BAD, x.place(-1, 0));
        due("no such place", BAD, x.place(MAX, 0));
        due("no such what", BAD, x.place(0, 4));
        due("no such what", BAD, x.place(0, -1));
    }

    private static void trade() {
        promise = 4;
        WhichDay x = with("p0 0 1;p1 0 1;p2 0 1;w2 0 33;");
        due("trade(0, 2)", 33, x.trade(0, 2));
        due("trade(2, 0)", 33, x.trade(2, 0));
        due("trade(0, 1)", 0, x.trade(0, 1));
        due("one twice", -1, x.trade(1, 1));
        due("no such", -1, x.trade(0, 3));
        due("no such", -1, x.trade(-1, 0));
        due("no such", -1, x.trade(MIN, MAX));
    }

    private static void choose() {
        promise = 5;
        WhichDay x = with("p0 0 1;p0 0 1+;");
        due("choose(0, -1)", 0, x.choose(0, -1));
        due("choose(0, 1)", -1, x.choose(0, 1));
        due("choose(1, 0)", 1, x.choose(1, 0));
        due("place(0, 2)", 1, x.place(0, 2));
        due("dayOf(0, 0)", 1, x.dayOf(0, 0));
        due("dayOf(1, 0)", 0, x.dayOf(1, 0));
        due("no such choice", BAD, x.choose(0, 2));
        due("no such choice", BAD, x.choose(0, -2));
        due("no such place", BAD, x.choose(2, 0));
        due("no such place", BAD, x.choose(-1, 0));
        due("nothing has changed", 1, x.place(0, 2));
    }

    private static void line() {
        promise = 6;
        WhichDay x = with("p0 0 1;");
        due("line(0)", 180, x.line(0));
        due("line(359)", 0, x.line(359));
        due("line(360)", -1, x.line(360));
        due("line(-1)", -1, x.line(-1));
        due("line(MIN)", -1, x.line(MIN));
        due("line(0)", 359, x.line(0));
        due("dayOf with the line there", -1, x.dayOf(0, 719));
        due("dayOf with the line there", 0, x.dayOf(0, 720));
    }

    private static void dayOf() {
        promise = 7;
        WhichDay x = with("p0 0 1;p0 1 1;p0 2 1;p180 0 1;p179 0 1;p0 1 1-;p0 0 1+;");
        int[][] rows = {{0, 0, 0}, {0, 1439, 0}, {0, 1440, 1}, {0, LAST, 13}, {1, 1079, 0}, {1, 1080, 1}, {2, 0, -1}, {2, 359, -1},
            {2, 360, 0}, {2, 1799, 0}, {2, 1800, 1}, {3, 719, -1}, {3, 720, 0}, {4, 723, 0}, {4, 724, 1}, {5, 1079, -1}, {5, 1080, 0},
            {6, 0, 1}};
        for (int[] r : rows) due("dayOf(" + r[0] + ", " + r[1] + ")", r[2], x.dayOf(r[0], r[1]));
        for (int t : NO_MINUTES) due("no minute", BAD, x.dayOf(0, t));
        due("no place", BAD, x.dayOf(7, 0));
        due("no place", BAD, x.dayOf(-1, 0));
    }

    private static void hourOf() {
        promise = 8;
        WhichDay x = with("p0 0 1;p0 1 1+;p180 2 1-;p181 0 1;");
        int[][] rows = {{0, 0, 0}, {0, 1439, 1439}, {0, 1440, 0}, {0, LAST, 19999 - 13 * 1440}, {1, 5, 5}, {2, 0, 720}, {2, 720, 0},
            {3, 0, 724}};
        for (int[] r : rows) due("hourOf(" + r[0] + ", " + r[1] + ")", r[2], x.hourOf(r[0], r[1]));
        for (int t : NO_MINUTES) due("no minute", -1, x.hourOf(0, t));
        due("no place", -1, x.hourOf(4, 0));
        due("no place", -1, x.hourOf(-1, 0));
    }

    // ---- 9 to 16

    private static void traveller() {
        promise = 9;
        WhichDay x = with("p0 0 1;p5 0 1;");
        due("no kind", -1, x.traveller(8, 0, 0));
        due("no kind", -1, x.traveller(-1, 0, 0));
        due("no home", -1, x.traveller(0, 2, 0));
        due("no home", -1, x.traveller(0, -1, 0));
        due("no stay", -1, x.traveller(0, 0, 31));
        due("no stay", -1, x.traveller(0, 0, -1));
        due("none made", 0, x.count(1));
        for (int k = 0; k < 8; k++) due("traveller", k, x.traveller(k, k % 2, k == 0 ? 30 : 0));
        due("no room", -2, x.traveller(0, 0, 0));
        due("no room, no kind", -1, x.traveller(8, 0, 0));
        due("eight made", 8, x.count(1));
        due("home", 1, x.in(7, 0));
        due("no places", -1, new WhichDay().traveller(0, 0, 0));
    }

    private static void leg() {
        promise = 10;
        WhichDay x = with("p0 0 1;p90 0 1;");
        x.traveller(0, 0, 0);
        due("no traveller", -1, x.leg(1, 1, true, 0, 1));
        due("no traveller", -1, x.leg(-1, 1, true, 0, 1));
        due("no place", -1, x.leg(0, 2, true, 0, 1));
        due("no place", -1, x.leg(0, -1, true, 0, 1));
        for (int t : NO_MINUTES) due("no minute", -1, x.leg(0, 1, true, t, 1));
        due("no hours", -1, x.leg(0, 1, true, 0, 0));
        due("no hours", -1, x.leg(0, 1, true, 0, 201));
        due("no hours", -1, x.leg(0, 1, true, 0, MAX));
        due("first", 1, x.leg(0, 1, true, 10, 1));
        due("ahead of the end", -3, x.leg(0, 0, true, 69, 1));
        due("ahead of the end", -3, x.leg(0, 0, true, 0, 1));
        due("no hours ahead of the end", -1, x.leg(0, 0, true, 0, 0));
        due("at the end", 2, x.leg(0, 0, false, 70, 1));
        due("one place", 3, x.leg(0, 0, false, 130, 200));
        due("still ahead of the end", -3, x.leg(0, 0, false, 12129, 1));
        due("fourth", 4, x.leg(0, 1, true, 12130, 1));
        due("fifth", 5, x.leg(0, 0, true, 15000, 1));
        due("its end behind all minutes", 6, x.leg(0, 1, true, LAST, 200));
        due("no room", -2, x.leg(0, 1, true, LAST, 1));
        due("no room, ahead of the end", -2, x.leg(0, 1, true, 0, 1));
        due("no minute, no room", -1, x.leg(0, 1, true, 20000, 1));
        due("six", 6, x.count(2));
        due("there by all of them", 0, x.in(0, LAST));
        due("round once", 360, 360 * x.rounds(0, 15060));
    }

    private static void captain() {
        promise = 11;
        WhichDay x = with("p0 0 1;");
        for (int kind = 0; kind < 8; kind++) x.traveller(kind, 0, 0);
        for (int kind = 0; kind < 8; kind++) if (kind != SHIP) due("no ship", -3, x.captain(kind, 0, 1));
        due("no change", -1, x.captain(SHIP, 0, 0));
        due("no change", -1, x.captain(SHIP, 0, 2));
        due("no change", -1, x.captain(SHIP, 0, -2));
        due("no change of no ship", -1, x.captain(0, 0, 0));
        for (int t : NO_MINUTES) due("no minute", -1, x.captain(SHIP, t, 1));
        due("no traveller", -1, x.captain(8, 0, 1));
        for (int i = 0; i < 8; i++) due("change", i + 1, x.captain(SHIP, 100 * (8 - i), i == 0 ? -1 : 1));
        due("no room", -2, x.captain(SHIP, 0, 1));
        due("no room, no minute", -1, x.captain(SHIP, -1, 1));
        due("day ahead of all", 0, x.day(SHIP, 99));
        due("day at the first", 1, x.day(SHIP, 100));
        due("day at the seventh", 7, x.day(SHIP, 700));
        due("day ahead of the last", 7, x.day(SHIP, 799));
        due("day at the last", 6, x.day(SHIP, 800));
    }

    private static void where() {
        promise = 12;
        WhichDay x = with("p350 0 1;p10 0 1;p11 0 1;");
        x.traveller(0, 0, 0);
        x.leg(0, 1, true, 0, 1);
        x.leg(0, 0, false, 100, 2);
        // 340 degrees in 12000 minutes: 17/600 of a degree a minute
        x.leg(0, 1, false, 300, 200);
        long[][] rows = {{0, 350, 1}, {29, 1079, 3}, {30, 0, 1}, {31, 1, 3}, {60, 10, 1}, {100, 10, 1}, {106, 9, 1}, {160, 0, 1},
            {161, 2159, 6}, {220, 350, 1}, {300, 350, 1}, {301, 350 * 600 - 17, 600}};
        for (long[] r : rows) {
            due("where above at " + r[0], r[1], x.where(0, (int) r[0], 0));
            due("where below at " + r[0], r[2], x.where(0, (int) r[0], 1));
        }
        due("no part", BAD_LONG, x.where(0, 0, 2));
        due("no part", BAD_LONG, x.where(0, 0, -1));
        for (int t : NO_MINUTES) due("no minute", BAD_LONG, x.where(0, t, 0));
        due("no traveller", BAD_LONG, x.where(1, 0, 0));
        due("no traveller", BAD_LONG, x.where(-1, 0, 1));
    }

    private static void in() {
        promise = 13;
        WhichDay x = with("p0 0 1;p90 0 1;p90 0 1;");
        x.traveller(0, 0, 0);
        x.leg(0, 1, true, 10, 1);
        x.leg(0, 2, true, 70, 1);
        x.leg(0, 2, true, 200, 1);
        int[][] rows = {{0, 0}, {10, 0}, {11, -4}, {69, -4}, {70, 1}, {71, -4}, {129, -4}, {130, 2}, {200, 2}, {201, -4}, {260, 2},
            {LAST, 2}};
        for (int[] r : rows) due("in at " + r[0], r[1], x.in(0, r[0]));
        for (int t : NO_MINUTES) due("no minute", -1, x.in(0, t));
        due("no traveller", -1, x.in(1, 0));
        due("no traveller", -1, x.in(-1, 0));
    }

    /** Days of eastward()'s travellers: at a minute, by COUNT, OWN, .. STRICT. */
    private static final int[][] EASTWARD = {
        {0, 0, 0, 0, 0, 0, 0, 0, 0},
        {1000, 0, 0, 0, 0, 0, 0, 0, 0},
        {1001, 0, 0, 0, 0, 0, 0, 0, 1},
        {1300, 1, 1, 1, 0, 1, 1, 0, 1},
        {1599, 1, 1, 1, 1, 1, 1, 1, 2},
        {1600, 1, 1, 2, 1, 1, 1, 1, 1},
        {4479, 3, 3, 4, 3, 3, 3, 3, 3},
        {4480, 3, 3, 4, 3, 3, 3, 4, 3},
        {LAST, 14, 14, 15, 13, 14, 14, 15, 13},
    };

    private static void day() {
        promise = 14;
        WhichDay x = eastward();
        for (int[] r : EASTWARD)
            for (int kind = 0; kind < 8; kind++) due("day of kind " + kind + " at " + r[0], r[1 + kind], x.day(kind, r[0]));
        x.captain(SHIP, 1300, -1);
        x.captain(SHIP, 1300, -1);
        x.captain(SHIP, 1500, 1);
        due("ship ahead of what the captain told", 1, x.day(SHIP, 1299));
        due("ship from then on", -1, x.day(SHIP, 1300));
        due("ship later", 0, x.day(SHIP, 1500));
        for (int t : NO_MINUTES) due("no minute", BAD, x.day(0, t));
        due("no traveller", BAD, x.day(8, 0));
        due("no traveller", BAD, x.day(-1, 0));
        WhichDay turned = overLine(TURN, true);
        due("turn ahead of the line", 1, turned.day(0, 1295));
        due("turn at the line: a day is twice", 0, turned.day(0, 1296));
        WhichDay west = overLine(TURN, false);
        due("turn on the line", 0, west.day(0, 1296));
        due("turn west of the line", 1, west.day(0, 1297));
        settled();
    }

    private static void settled() {
        WhichDay x = with("p0 0 9;p0 0 9+;");
        x.traveller(SETTLED, 0, 1);
        x.leg(0, 1, true, 0, 1);
        x.leg(0, 1, true, 1000, 1);
        x.leg(0, 0, true, 3000, 1);
        due("not yet, since one came once more", 1, x.day(0, 1500));
        due("not yet", 1, x.day(0, 2499));
        due("settled", 2, x.day(0, 2500));
        due("still, at the first minute of the leg", 3, x.day(0, 3000));
        due("under way", 2, x.day(0, 3001));
        due("at home", 10, x.day(0, 14400));
        WhichDay at0 = with("p0 0 9;p0 0 9+;");
        at0.traveller(SETTLED, 0, 0);
        at0.leg(0, 1, true, 0, 1);
        due("ahead of its end", 0, at0.day(0, 59));
        due("with no stay, at its end", 1, at0.day(0, 60));
    }

    private static void dayBy() {
        promise = 15;
        WhichDay x = eastward();
        x.captain(SHIP, 1500, 1);
        for (int[] r : EASTWARD)
            for (int kind = 0; kind < 8; kind++) {
                due("by kind " + kind + " at " + r[0], r[1 + kind], x.dayBy(0, kind, r[0]));
                int told = kind == SHIP && r[0] >= 1500 ? 1 : 0;
                due("a ship's by kind " + kind + " at " + r[0], r[1 + kind] + told, x.dayBy(SHIP, kind, r[0]));
            }
        WhichDay far = with("p90 0 1;");
        far.traveller(HOME, 0, 0);
        due("own of a home at 90 degrees", 0, far.dayBy(0, OWN, 719));
        due("own of a home at 90 degrees", 1, far.dayBy(0, OWN, 720));
        due("count of a home at 90 degrees", 0, far.dayBy(0, COUNT, 1079));
        due("count of a home at 90 degrees", 1, far.dayBy(0, COUNT, 1080));
        due("no kind", BAD, x.dayBy(0, 8, 0));
        due("no kind", BAD, x.dayBy(0, -1, 0));
        for (int t : NO_MINUTES) due("no minute", BAD, x.dayBy(0, 0, t));
        due("no traveller", BAD, x.dayBy(8, 0, 0));
    }

    private static void gain() {
        promise = 16;
        WhichDay x = eastward();
        for (int[] r : EASTWARD)
            for (int kind = 0; kind < 8; kind++) due("gain " + kind + " at " + r[0], r[1 + kind] - r[1 + HOME], x.gain(5, kind, r[0]));
        x.choose(0, 1);
        due("gain over a home that chose", -1, x.gain(5, OWN, 0));
        due("no kind", BAD, x.gain(0, 8, 0));
        due("no kind", BAD, x.gain(0, -1, 0));
        for (int t : NO_MINUTES) due("no minute", BAD, x.gain(0, 0, t));
        due("no traveller", BAD, x.gain(8, 0, 0));
        due("a round eastward", 1, overLine(OWN, true).gain(0, OWN, 1439));
    }

    // ---- 17 to 23

    private static void begins() {
        promise = 17;
        WhichDay x = eastward();
        int[][] rows = {{0, 1440}, {1439, 1440}, {1440, 2880}, {18719, 18720}, {18720, -4}, {LAST, -4}};
        for (int[] r : rows) due("begins of home's at " + r[0], r[1], x.begins(HOME, r[0]));
        due("under way", 1001, x.begins(STRICT, 0));
        due("home's next", 1440, x.begins(STRICT, 1001));
        due("come", 1600, x.begins(STRICT, 1440));
        due("by the place that chose", 1600, x.begins(PLACE, 1599));
        due("settled", 4480, x.begins(SETTLED, 4320));
        x.captain(SHIP, 300, 1);
        x.captain(SHIP, 300, -1);
        due("what the captain took back", 1050, x.begins(SHIP, 0));
        x.captain(SHIP, LAST, 1);
        due("at the last minute", LAST, x.begins(SHIP, 19800));
        WhichDay back = settledBack();
        int[][] backRows = {{0, 1440}, {1440, 1500}, {1499, 1500}, {1500, 2880}, {2880, 4320}};
        for (int[] r : backRows) due("settled a day back, at " + r[0], r[1], back.begins(0, r[0]));
        for (int t : NO_MINUTES) due("no minute", -1, x.begins(0, t));
        due("no traveller", -1, x.begins(8, 0));
        due("no traveller", -1, x.begins(-1, 0));
        due("back at the line", 1296, overLine(TURN, true).begins(0, 695));
    }

    private static void longDay() {
        promise = 18;
        WhichDay x = eastward();
        due("home's first", 1440, x.longDay(HOME, 0));
        due("home's last but one", 1440, x.longDay(HOME, 18719));
        due("home's last", -4, x.longDay(HOME, 18720));
        due("strict ahead", 1001, x.longDay(STRICT, 1000));
        due("strict under way", 439, x.longDay(STRICT, 1001));
        due("strict next", 160, x.longDay(STRICT, 1500));
        WhichDay turned = overLine(TURN, true);
        due("ahead of the line", 601, turned.longDay(0, 1000));
        due("a day for the second time", 424, turned.longDay(0, 1296));
        due("a day till one settles", 60, settledBack().longDay(0, 1450));
        x.captain(SHIP, LAST, 1);
        due("till the last minute", 19999 - 19440, x.longDay(SHIP, 19500));
        for (int t : NO_MINUTES) due("no minute", -1, x.longDay(0, t));
        due("no traveller", -1, x.longDay(8, 0));
    }

    private static void often() {
        promise = 19;
        WhichDay x = overLine(TURN, true);
        int[][] rows = {{0, 0, 1}, {0, 694, 1}, {0, 1295, 1}, {0, 1296, 2}, {0, LAST, 2}, {1, 694, 0}, {1, 695, 1}, {1, 1719, 1},
            {1, 1720, 2}, {99, LAST, 0}, {MIN, LAST, 0}, {MAX, LAST, 0}};
        for (int[] r : rows) due("often " + r[0] + " till " + r[1], r[2], x.often(0, r[0], r[1]));
        due("twice by settling", 2, settledBack().often(0, 1, LAST));
        due("once till then", 1, settledBack().often(0, 1, 2879));
        WhichDay ship = with("p0 0 1;");
        ship.traveller(SHIP, 0, 0);
        ship.captain(0, 500, 1);
        ship.captain(0, 500, 1);
        due("a day that never was", 0, ship.often(0, 1, LAST));
        due("the day behind it", 1, ship.often(0, 2, LAST));
        for (int t : NO_MINUTES) due("no minute", -1, x.often(0, 0, t));
        due("no traveller", -1, x.often(1, 0, 0));
    }

    private static void duty() {
        promise = 20;
        WhichDay x = eastward();
        int[][] rows = {{0, 0, 0}, {77, 0, 77}, {5, 1, 1440}, {0, 10, 14400}, {1439, 10, 14400}, {1440, 10, 15840}, {10000, 10, -4},
            {LAST, 0, LAST}, {LAST, 1, -4}};
        for (int[] r : rows) due("duty of " + r[1] + " from " + r[0], r[2], x.duty(HOME, r[0], r[1]));
        due("or above", 1001, x.duty(STRICT, 0, 1));
        due("at once two", 1440, x.duty(STRICT, 0, 2));
        due("too few", -1, x.duty(0, 0, -1));
        due("too many", -1, x.duty(0, 0, 11));
        for (int t : NO_MINUTES) due("no minute", -1, x.duty(0, t, 0));
        due("no traveller", -1, x.duty(8, 0, 0));
        x.captain(SHIP, 500, 1);
        x.captain(SHIP, 500, 1);
        due("two more at once", 500, x.duty(SHIP, 0, 1));
        due("three more", 1050, x.duty(SHIP, 0, 3));
    }

    private static void differ() {
        promise = 21;
        WhichDay x = twoHomes();
        due("differ(0, 1, 0)", 1, x.differ(0, 1, 0));
        due("differ(1, 0, 0)", -1, x.differ(1, 0, 0));
        due("differ(0, 1, 720)", 0, x.differ(0, 1, 720));
        due("one", 0, x.differ(1, 1, 0));
        for (int t : NO_MINUTES) due("no minute", BAD, x.differ(0, 1, t));
        due("no traveller", BAD, x.differ(0, 2, 0));
        due("no traveller", BAD, x.differ(-1, 0, 0));
    }

    private static void agree() {
        promise = 22;
        WhichDay x = twoHomes();
        int[][] rows = {{0, 720}, {719, 720}, {720, 720}, {1439, 1439}, {1440, 2160}, {18720, 19440}, {LAST, LAST}};
        for (int[] r : rows) {
            due("agree from " + r[0], r[1], x.agree(0, 1, r[0]));
            due("agree from " + r[0], r[1], x.agree(1, 0, r[0]));
        }
        due("one", 5, x.agree(0, 0, 5));
        x.choose(1, -1);
        due("never", -4, x.agree(0, 1, 0));
        for (int t : NO_MINUTES) due("no minute", -1, x.agree(0, 1, t));
        due("no traveller", -1, x.agree(0, 2, 0));
        due("no traveller", -1, x.agree(-1, 0, 0));
    }

    private static void part() {
        promise = 23;
        WhichDay x = eastward();
        due("home and strict", 1001, x.part(0, HOME, STRICT, 0));
        due("the other way round", 1001, x.part(0, STRICT, HOME, 1001));
        due("from later on", 1200, x.part(0, HOME, STRICT, 1200));
        due("not any more", -4, x.part(0, HOME, STRICT, 1600));
        due("home and settled", 4480, x.part(0, HOME, SETTLED, 0));
        due("own and ship of no ship", -4, x.part(0, OWN, SHIP, 0));
        x.captain(SHIP, 7000, 1);
        due("own and ship", 7000, x.part(SHIP, OWN, SHIP, 0));
        x.captain(SHIP, 7001, -1);
        due("own and ship not any more", -4, x.part(SHIP, OWN, SHIP, 7001));
        x.captain(SHIP, LAST, -1);
        due("own and ship at the last minute", LAST, x.part(SHIP, OWN, SHIP, 7001));
        due("one kind twice", -1, x.part(0, OWN, OWN, 0));
        due("no kind", -1, x.part(0, OWN, 8, 0));
        due("no kind", -1, x.part(0, -1, OWN, 0));
        for (int t : NO_MINUTES) due("no minute", -1, x.part(0, 0, 1, t));
        due("no traveller", -1, x.part(8, 0, 1, 0));
    }

    // ---- 24 to 26

    private static WhichDay trading() {
        return with("p10 0 1;p20 0 5-;p200 0 10;w0 1 9;w0 2 4;w1 2 0;");
    }

    private static void wrong() {
        promise = 24;
        WhichDay x = trading();
        due("wrong(15, 0)", 54, x.wrong(15, 0));
        due("wrong(0, 0)", 98, x.wrong(0, 0));
        due("wrong(195, 0)", 0, x.wrong(195, 0));
        due("a trade of 1", 1, read(x, "w1 2 1;"));
        due("wrong(0, 0) with it", 98 + 15, x.wrong(0, 0));
        due("no trade", 1, read(x, "w1 2 0;"));
        due("the line stays", 180, x.count(3));
        due("no degree", -1, x.wrong(360, 0));
        due("no degree", -1, x.wrong(-1, 0));
        for (int t : NO_MINUTES) due("no minute", -1, x.wrong(0, t));
    }

    private static void bestLine() {
        promise = 25;
        WhichDay x = trading();
        due("bestLine(0, 0)", 195, x.bestLine(0, 0));
        due("bestLine(0, 1)", 0, x.bestLine(0, 1));
        due("the line stays", 180, x.count(3));
        due("no what", -1, x.bestLine(0, 2));
        due("no what", -1, x.bestLine(0, -1));
        for (int t : NO_MINUTES) due("no minute", -1, x.bestLine(t, 0));
        WhichDay none = with("p10 0 1;");
        due("of several the least", 0, none.bestLine(0, 0));
        // with a line anywhere one of these two is a day behind
        WhichDay always = with("p10 0 3;p10 0 4+;w0 1 10;");
        due("of several the least", 0, always.bestLine(0, 0));
        due("its wrong", 70, always.bestLine(0, 1));
    }

    private static void moved() {
        promise = 26;
        WhichDay x = trading();
        due("moved(15, 0)", 6, x.moved(15, 0));
        due("moved by the line that is", 0, x.moved(180, 0));
        due("moved(0, 0)", 7, x.moved(0, 0));
        due("the line stays", 180, x.count(3));
        due("no degree", -1, x.moved(360, 0));
        due("no degree", -1, x.moved(-1, 0));
        for (int t : NO_MINUTES) due("no minute", -1, x.moved(0, t));
    }

    // ---- 27 to 31

    private static void judge() {
        promise = 27;
        WhichDay x = eastward();
        row(x, 0, 0, 0, 1, 2);
        due("all right", -4, x.judge(HOME, 0, 0, 1440));
        due("the first is wrong", 0, x.judge(HOME, 0, 1440, 1440));
        due("the second is wrong", 1, x.judge(HOME, 0, 0, 1439));
        due("by its own kind", 1, x.judge(STRICT, 0, 0, 1500));
        row(x, 0, 0, 0, -128, -128, 9);
        due("not told", 3, x.judge(HOME, 0, 0, 1));
        row(x, 0, 1, -32768, -128);
        due("not told by shorts", 1, x.judge(HOME, 0, 0, 1));
        row(x, 0, 2, MIN, -32768);
        due("not told by ints", 1, x.judge(HOME, 0, 0, 1));
        row(x, 0, 0, -128, -128, -128);
        due("just the last minute", -4, x.judge(HOME, 0, 1, 9999));
        due("a minute too many", -1, x.judge(HOME, 0, 2, 9999));
        x.row(0, 0, 0);
        due("nothing told", -4, x.judge(HOME, 0, LAST, 9999));
        due("nothing told", -4, x.judge(HOME, 0, 0, 9999));
        x.row(0, 1, 100);
        due("a hundred told", -4, x.judge(HOME, 0, 0, 14));
        due("a hundred told", 97, x.judge(HOME, 0, 82, 14));
        x.put(0, 99, 1);
        due("the hundredth wrong", 99, x.judge(HOME, 0, 0, 14));
        due("no step", -1, x.judge(HOME, 0, 0, 0));
        due("no step", -1, x.judge(HOME, 0, 0, 10000));
        for (int t : NO_MINUTES) due("no minute", -1, x.judge(HOME, 0, t, 1));
        due("no traveller", -1, x.judge(8, 0, 0, 1));
        due("no shelf", -1, x.judge(0, 8, 0, 1));
        due("no shelf", -1, x.judge(0, -1, 0, 1));
        due("nothing", -11, x.judge(0, 1, 0, 1));
        due("nothing, no step", -1, x.judge(0, 1, 0, 0));
        x.keep(1, 1, 0);
        due("a traveller", -12, x.judge(0, 1, 0, 1));
    }

    private static void kept() {
        promise = 28;
        WhichDay x = eastward();
        // under way from 1001 to 1599; the days there: 0 till 1350 or so, then 1
        row(x, 0, 2, 500, 1000, 1001, 1599, 1600);
        due("rest on 0", 2, x.kept(STRICT, 0, 0));
        due("rest on 1", 3, x.kept(STRICT, 0, 1));
        due("rest on 2", -4, x.kept(STRICT, 0, 2));
        WhichDay low = with("p180 0 1;p190 0 1;");
        low.traveller(HOME, 0, 0);
        low.leg(0, 1, true, 0, 10);
        row(low, 0, 2, 0, 1);
        due("day -1 is 6", 1, low.kept(0, 0, 6));
        due("day -1 is not 1", -4, low.kept(0, 0, 1));
        due("no rest", -1, x.kept(0, 0, 7));
        due("no rest", -1, x.kept(0, 0, -1));
        due("no traveller", -1, x.kept(8, 0, 0));
        due("no shelf", -1, x.kept(0, 8, 0));
        due("nothing", -11, x.kept(0, 1, 0));
        due("nothing, no rest", -1, x.kept(0, 1, 7));
        x.keep(1, 1, 0);
        due("a traveller", -12, x.kept(0, 1, 0));
        row(x, 1, 1, 20000);
        due("shorts", -12, x.kept(0, 1, 0));
        row(x, 1, 0, 0);
        due("bytes", -12, x.kept(0, 1, 0));
        row(x, 1, 2, 1001, LAST);
        due("a minute", 0, x.kept(0, 1, 0));
        for (int t : NO_MINUTES) {
            row(x, 1, 2, 1001, t);
            due("no minute behind one that isn't kept", -13, x.kept(0, 1, 0));
            row(x, 1, 2, t, 1001);
            due("no minute ahead of it", -13, x.kept(0, 1, 0));
        }
        x.row(1, 2, 100);
        due("a hundred duties", -4, x.kept(0, 1, 0));
        x.put(1, 99, 1001);
        due("the hundredth not kept", 99, x.kept(0, 1, 0));
        x.row(1, 2, 0);
        due("no duties", -4, x.kept(0, 1, 0));
    }

    private static void rounds() {
        promise = 29;
        WhichDay east = overLine(HOME, true);
        due("at first", 0, east.rounds(0, 0));
        due("ahead of the line", 0, east.rounds(0, 1295));
        due("at the line", 1, east.rounds(0, 1296));
        WhichDay west = overLine(HOME, false);
        due("at the line", 0, west.rounds(0, 1296));
        due("behind it", -1, west.rounds(0, 1297));
        due("there", -1, west.rounds(0, LAST));
        west.line(0);
        due("with another line", -1, west.rounds(0, 1));
        due("at first", 0, west.rounds(0, 0));
        for (int t : NO_MINUTES) due("no minute", BAD, west.rounds(0, t));
        due("no traveller", BAD, west.rounds(1, 0));
        due("no traveller", BAD, west.rounds(-1, 0));
    }

    private static void log() {
        promise = 30;
        WhichDay x = eastward();
        // an own's days: 0 at 0, 1 at 1300, 3 at 4480
        for (int k = -4; k <= 4; k++) {
            row(x, 0, 1, 0, -k, 1300, 1 - k, 4480, 3 - k);
            due("shift " + k, k < -3 || k > 3 ? 0 : 1 << k + 3, x.log(HOME, 0));
        }
        row(x, 0, 2, 0, 0, 1300, 2);
        due("no one shift", 0, x.log(HOME, 0));
        row(x, 0, 2, 0, MAX);
        due("far off", 0, x.log(HOME, 0));
        row(x, 0, 2, 0, MIN + 1);
        due("far off", 0, x.log(HOME, 0));
        row(x, 0, 2, 0, 0, MIN, 7, -5, MIN, 1300, 1);
        due("left out", 8, x.log(HOME, 0));
        row(x, 0, 0, -128, 3, -7, -128);
        due("all left out", 127, x.log(HOME, 0));
        x.row(0, 2, 0);
        due("nothing written", 127, x.log(HOME, 0));
        x.row(0, 1, 100);
        due("fifty pairs", 8, x.log(HOME, 0));
        x.put(0, 99, 1);
        due("the last not so", 0, x.log(HOME, 0));
        x.row(0, 2, 3);
        due("odd", -13, x.log(HOME, 0));
        for (int t : new int[] {-1, LAST + 1, MAX}) {
            row(x, 0, 2, 0, 99, t, 0);
            due("no minute", -13, x.log(HOME, 0));
        }
        row(x, 0, 1, -32767, 0);
        due("no minute", -13, x.log(HOME, 0));
        due("no traveller", -1, x.log(8, 0));
        due("no shelf", -1, x.log(0, 8));
        due("no shelf", -1, x.log(0, -1));
        due("nothing", -11, x.log(0, 1));
        x.keep(1, 1, 0);
        due("a traveller", -12, x.log(0, 1));
    }

    private static void plan() {
        promise = 31;
        // to 200 degrees and back, a day each; at 1000: day 0 westward, 1 eastward; at 1740: 1 westward, 0 eastward
        WhichDay x = overLine(HOME, true);
        x.leg(0, 0, true, 1440, 24);
        row(x, 0, 2, 1000);
        due("first leg eastward", 1, x.plan(0, 0, 0));
        due("all westward", 0, x.plan(0, 0, 1));
        row(x, 0, 2, 1740);
        due("second leg eastward", 2, x.plan(0, 0, 1));
        row(x, 0, 2, 1740, 1000);
        due("first leg eastward", 1, x.plan(0, 0, 0));
        due("second leg eastward", 2, x.plan(0, 0, 1));
        row(x, 0, 2, 720, 1000);
        due("none", -4, x.plan(0, 0, 0));
        due("in mind", 1, x.rounds(0, 1440));
        due("kept as it is", 0, x.kept(0, 0, 0));
        x.traveller(HOME, 0, 0);
        due("no legs", 0, x.plan(1, 0, 0));
        due("no rest", -1, x.plan(0, 0, 7));
        due("no rest", -1, x.plan(0, 0, -1));
        due("no traveller", -1, x.plan(2, 0, 0));
        due("no shelf", -1, x.plan(0, 8, 0));
        due("nothing", -11, x.plan(0, 1, 0));
        x.keep(1, 1, 0);
        due("a traveller", -12, x.plan(0, 1, 0));
        x.row(1, 1, 1);
        due("shorts", -12, x.plan(0, 1, 0));
        for (int t : NO_MINUTES) {
            row(x, 1, 2, 720, 1000, t);
            due("no minute", -13, x.plan(0, 1, 0));
        }
        x.row(1, 2, 100);
        due("a hundred duties", 0, x.plan(0, 1, 0));
        x.row(1, 2, 0);
        due("no duties", 0, x.plan(0, 1, 0));
        allEastward();
    }

    private static void allEastward() {
        WhichDay x = with("p220 0 1;p60 0 1;p80 0 1;p110 0 1;p70 0 1;");
        x.traveller(COUNT, 0, 0);
        int[] to = {1, 2, 3, 2, 4, 1};
        int[] from = {755, 845, 935, 1025, 1115, 1195};
        for (int k = 0; k < 6; k++) x.leg(0, to[k], false, from[k], 1);
        row(x, 0, 2, 775, 895, 985, 1045, 1165, 1225);
        due("all legs eastward", 63, x.plan(0, 0, 1));
        due("as told the first isn't kept", 0, x.kept(0, 0, 1));
    }

    // ---- 32 to 34

    private static void image() {
        promise = 32;
        WhichDay x = new WhichDay();
        due("of nothing", 0, x.image());
        read(x, "p0 0 1;");
        x.traveller(0, 0, 0);
        due("of one", 1, x.image());
        x.traveller(0, 0, 0);
        due("of two", 2, x.image());
        x.traveller(0, 0, 0);
        due("the last image counts", 2, x.restore());
    }

    private static void restore() {
        promise = 33;
        WhichDay x = new WhichDay();
        due("none", -3, x.restore());
        read(x, "p0 0 5;p90 0 6;w0 1 7;");
        x.traveller(SHIP, 0, 0);
        x.leg(0, 1, true, 0, 1);
        x.captain(0, 0, 1);
        x.image();
        for (int again = 0; again < 2; again++) {
            x.choose(0, 1);
            x.line(90);
            read(x, "p180 0 9;w0 1 8;w0 2 3;");
            x.traveller(0, 2, 0);
            x.leg(0, 2, false, 60, 1);
            x.captain(0, 0, 1);
            row(x, 3, 0, 42);
            due("restore", 1, x.restore());
            due("travellers", 1, x.count(1));
            due("places", 2, x.count(0));
            due("legs", 1, x.count(2));
            due("line", 180, x.count(3));
            due("choice", 0, x.place(0, 2));
            due("trade", 7, x.trade(0, 1));
            due("pairs", 1, x.count(5));
            due("day", 1, x.day(0, 0));
            due("shelves stay", 42, x.element(3, 0));
            due("where", 90, x.where(0, LAST, 0));
        }
        read(x, "p7 2 1;");
        due("no trade of old", 0, x.trade(0, 2));
        WhichDay full = with("p0 0 1;".repeat(10));
        read(full, "w8 9 7;");
        full.image();
        read(full, "w8 9 8;");
        full.restore();
        due("the last two places' trade", 7, full.trade(9, 8));
    }

    private static void restoreApart() {
        promise = 33;
        WhichDay x = with("p0 0 5;p90 0 6;");
        x.traveller(COUNT, 0, 0);
        x.image();
        x.keep(0, 1, 0);
        x.leg(0, 1, true, 0, 1);
        due("it itself", 11, x.weight(0));
        x.restore();
        due("stays as it is", 11, x.weight(0));
        x.leg(0, 1, true, 0, 1);
        x.leg(0, 0, true, 60, 1);
        due("apart from then on", 11, x.weight(0));
        x.keep(1, 1, 0);
        due("the new one", 12, x.weight(1));
        x.image();
        x.leg(0, 0, true, 120, 1);
        due("an image parts nothing", 13, x.weight(1));
        x.restore();
        x.restore();
        due("as it was", 2, x.count(2));
        due("still as it is", 13, x.weight(1));
        WhichDay none = new WhichDay();
        none.image();
        read(none, "p0 0 5;p90 0 6;");
        none.traveller(HOME, 1, 0);
        none.keep(0, 1, 0);
        none.restore();
        due("no places", 0, none.count(0));
        due("of a home that is gone", 11, none.weight(0));
        due("not there any more", -1, none.keep(0, 1, 0));
    }

    private static void count() {
        promise = 34;
        WhichDay x = with("p0 0 5;p90 0 600;p91 0 0;w0 1 7;w0 2 3;w2 0 0;w2 1 1;l9;");
        x.traveller(0, 0, 0);
        x.traveller(0, 0, 0);
        x.leg(0, 1, true, 0, 1);
        x.leg(1, 1, true, 0, 1);
        x.leg(1, 1, true, 60, 1);
        int[] want = {3, 2, 3, 9, 605, 2};
        for (int what = 0; what < 6; what++) due("count(" + what + ")", want[what], x.count(what));
        due("others", -1, x.count(6));
        due("others", -1, x.count(-1));
        due("others", -1, x.count(MIN));
    }

    // ---- 35 to 41

    private static void keep() {
        promise = 35;
        WhichDay x = eastward();
        due("a traveller", 0, x.keep(0, 1, 3));
        due("it is there", 11, x.weight(0));
        due("no traveller", -1, x.keep(0, 1, 8));
        due("no traveller", -1, x.keep(0, 1, -1));
        due("no what", -1, x.keep(0, 2, 0));
        due("no what", -1, x.keep(0, -1, 0));
        due("no shelf", -1, x.keep(8, 1, 0));
        due("no shelf", -1, x.keep(-1, 0, 0));
        due("still there", 11, x.weight(0));
        due("nothing", 0, x.keep(0, 0, MIN));
        due("it is gone", -11, x.weight(0));
        due("nothing again", 0, x.keep(0, 0, 99));
        x.row(7, 0, 5);
        due("in place of a row", 0, x.keep(7, 1, 0));
        due("no row", -12, x.put(7, 0, 0));
        due("nothing in place of it", 0, x.keep(7, 0, 0));
        due("nothing", -11, x.put(7, 0, 0));
    }

    private static void row() {
        promise = 36;
        WhichDay x = eastward();
        due("empty", 0, x.row(0, 0, 0));
        due("longest", 0, x.row(0, 2, 100));
        due("longest", 100, sizeOf(x, 0));
        due("too long", -1, x.row(0, 2, 101));
        due("too long", -1, x.row(0, 2, MAX));
        due("below 0", -14, x.row(0, 2, -1));
        due("below 0", -14, x.row(0, 2, MIN));
        due("no sort", -1, x.row(0, 3, 1));
        due("no sort", -1, x.row(0, -1, -1));
        due("no shelf", -1, x.row(8, 0, -1));
        due("no shelf", -1, x.row(-1, 0, 1));
        due("as it was", 100, sizeOf(x, 0));
        x.put(0, 99, 7);
        due("anew", 0, x.row(0, 2, 100));
        due("0 at first", 0, x.element(0, 99));
        x.put(0, 0, 7);
        x.row(0, 2, 1);
        due("0 at first", 0, x.element(0, 0));
        x.keep(1, 1, 0);
        due("in place of a traveller", 0, x.row(1, 1, 1));
        due("no traveller", -12, x.weight(1));
    }

    private static void put() {
        promise = 37;
        WhichDay x = eastward();
        int[][] rows = {{0, 127, 127}, {0, 128, -128}, {0, 255, -1}, {0, 256, 0}, {0, -129, 127}, {1, 32767, 32767}, {1, 32768, -32768},
            {1, 65535, -1}, {1, -32769, 32767}, {2, MIN, MIN}, {2, MAX, MAX}};
        for (int[] r : rows) {
            x.row(0, r[0], 2);
            due("put", 0, x.put(0, 1, r[1]));
            due("its lowest bits", r[2], x.element(0, 1));
            due("the other one", 0, x.element(0, 0));
        }
        due("no place", -13, x.put(0, 2, 0));
        due("no place", -13, x.put(0, -1, 0));
        due("no place", -13, x.put(0, MAX, 0));
        due("no shelf", -1, x.put(8, 0, 0));
        due("no shelf", -1, x.put(-1, 0, 0));
        due("nothing", -11, x.put(1, 0, 0));
        x.keep(1, 1, 0);
        due("a traveller", -12, x.put(1, 99, 0));
    }

    /** 0 an answer, 1 IllegalArgumentException, 2 IllegalStateException. */
    private static int thrown(WhichDay x, int d, int i) {
        try {
            x.element(d, i);
            return 0;
        } catch (IllegalArgumentException e) {
            return 1;
        } catch (IllegalStateException e) {
            return 2;
        }
    }

    private static void element() {
        promise = 38;
        WhichDay x = eastward();
        row(x, 0, 2, 5, MIN);
        due("element", 5, x.element(0, 0));
        due("element", MIN, x.element(0, 1));
        due("none thrown", 0, thrown(x, 0, 1));
        due("no shelf", 1, thrown(x, 8, 0));
        due("no shelf", 1, thrown(x, -1, 0));
        due("no shelf, no place", 1, thrown(x, MIN, -1));
        due("no place", 2, thrown(x, 0, 2));
        due("no place", 2, thrown(x, 0, -1));
        due("no place", 2, thrown(x, 0, MAX));
        due("nothing", 2, thrown(x, 1, 0));
        x.keep(0, 1, 0);
        due("a traveller", 2, thrown(x, 0, 0));
    }

    private static void copy() {
        promise = 39;
        WhichDay x = eastward();
        row(x, 0, 1, 1, 2, 3, 4, 5);
        row(x, 1, 1, 9, 9, 9);
        due("copy", 2, x.copy(0, 3, 1, 1, 2));
        due("ahead", 9, x.element(1, 0));
        due("first", 4, x.element(1, 1));
        due("second", 5, x.element(1, 2));
        due("onto itself", 4, x.copy(0, 0, 0, 1, 4));
        for (int i = 0; i < 5; i++) due("onto itself", i == 0 ? 1 : i, x.element(0, i));
        due("back again", 4, x.copy(0, 1, 0, 0, 4));
        for (int i = 0; i < 5; i++) due("back again", i < 4 ? i + 1 : 4, x.element(0, i));
        due("none at the end", 0, x.copy(0, 5, 1, 3, 0));
        due("none behind the end", -13, x.copy(0, 6, 1, 0, 0));
        due("none behind the end", -13, x.copy(0, 0, 1, 4, 0));
        due("too many there", -13, x.copy(0, 0, 1, 0, 4));
        due("too many here", -13, x.copy(1, 0, 0, 0, 4));
        due("below 0", -13, x.copy(0, 0, 1, 0, -1));
        due("below 0", -13, x.copy(0, -1, 1, 0, 1));
        due("below 0", -13, x.copy(0, 0, 1, -1, 1));
        due("far off", -13, x.copy(0, MAX, 1, 0, MAX));
        due("far off", -13, x.copy(0, 1, 1, 1, MAX));
        due("nothing there", -11, x.copy(0, 0, 2, 0, 1));
        due("nothing here", -11, x.copy(2, 0, 0, 0, 1));
        x.keep(3, 1, 0);
        due("a traveller to nothing", -11, x.copy(3, 0, 2, 0, 1));
        due("nothing to a traveller", -11, x.copy(2, 0, 3, 0, 1));
        due("a traveller", -12, x.copy(3, 0, 0, 0, 1));
        due("a traveller", -12, x.copy(0, 0, 3, 0, 1));
        x.row(3, 1, 5);
        x.keep(3, 1, 0);
        due("a traveller where such a row was", -12, x.copy(3, 0, 0, 0, 1));
        due("a traveller where such a row was", -12, x.copy(0, 0, 3, 0, 1));
        x.row(4, 2, 5);
        due("another sort", -12, x.copy(0, 0, 4, 0, -1));
        due("no shelf", -1, x.copy(8, 0, 2, 0, 1));
        due("no shelf", -1, x.copy(2, 0, -1, 0, 1));
    }

    private static void weight() {
        promise = 40;
        WhichDay x = with("p0 0 1;p1 0 1;p2 0 1;p3 0 1;");
        int[] want = {12, 13, 24, 15, 15, 26, 29, 115};
        for (int kind = 0; kind < 8; kind++) {
            x.traveller(kind, 3, 5);
            x.leg(kind, 0, true, 0, 1);
            x.leg(kind, 1, true, 60, 1);
        }
        x.captain(SHIP, 9, 1);
        x.captain(SHIP, 9, -1);
        for (int kind = 0; kind < 8; kind++) {
            x.keep(kind, 1, kind);
            due("of kind " + kind, want[kind], x.weight(kind));
        }
        x.leg(0, 0, true, 500, 1);
        due("it itself", 13, x.weight(0));
        due("no shelf", -1, x.weight(8));
        due("no shelf", -1, x.weight(-1));
        x.row(0, 0, 0);
        due("a row", -12, x.weight(0));
        x.keep(0, 0, 0);
        due("nothing", -11, x.weight(0));
    }

    private static void toss() {
        promise = 41;
        WhichDay x = with("p0 0 1;");
        int[] kinds = {STRICT, SETTLED, TURN, SHIP, HOME, PLACE, OWN, COUNT};
        int[] want = {-15, 217, 2, 103, -15, 5, 6, 7};
        for (int k = 0; k < 8; k++) {
            x.traveller(kinds[k], 0, 17);
            x.keep(k, 1, k);
            due("without legs", -15, x.toss(k));
        }
        for (int k = 0; k < 8; k++) {
            x.leg(k, 0, true, 0, 1);
            due("of kind " + kinds[k], want[k], x.toss(k));
            due("once more", want[k], x.toss(k));
        }
        due("no shelf", -1, x.toss(8));
        due("no shelf", -1, x.toss(-1));
        x.row(0, 0, 0);
        due("a row", -12, x.toss(0));
        x.keep(0, 0, 0);
        due("nothing", -11, x.toss(0));
    }
}
