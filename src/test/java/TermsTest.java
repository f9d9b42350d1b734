/**
 * The document's 'Terms': each sentence there that names a boundary case has a
 * test of its own, on the boundary, just inside it and just outside it.
 */
public final class TermsTest extends Bench {
    public static void main(String[] args) {
        minutesThatAre();
        minutesThatAreNot();
        places();
        degrees();
        rules();
        choices();
        people();
        lineAtFirst();
        eastOfTheLine();
        eastOfTheLineByFractions();
        dayRoundedDown();
        dayByRules();
        dayOutermost();
        hour();
        travellers();
        kinds();
        stay();
        mostLegs();
        fromMinutesOn();
        hours();
        endBehindAll();
        evenMotion();
        byNoDegrees();
        firstAndLastMinuteOfALeg();
        aheadBetweenBehind();
        whereRoundTheWorld();
        whereInLeastTerms();
        homesDay();
        heresDay();
        seen();
        roundsRoundedDown();
        count();
        own();
        ship();
        mostChanges();
        turn();
        settledFrom();
        settledElsewhere();
        settledLastLeg();
        strict();
        weights();
        shelves();
        rowSizes();
        rowSorts();
        lowestBits();
        finish();
    }

    // ---- MINUTES

    /** A traveller of a kind at home in place 1, whose day by midnight is t by 1440. */
    private static WhichDay atHome(int kind) {
        return with("p180 0 9;p0 0 7;", kind, 1, 0);
    }

    private static void minutesThatAre() {
        says("MINUTES t are 0 .. 19999");
        int[] minutes = {0, 1, LAST - 1, LAST};
        // of each call, what it answers at these
        long[][] want = {{0, 0, 13, 13}, {0, 1, 1278, 1279}, {0, 0, 0, 0}, {1, 1, 1, 1}, {0, 0, 13, 13}, {0, 0, 14, 14}, {0, 0, 1, 1},
            {1440, 1440, -4, -4}, {1440, 1440, -4, -4}, {0, 0, 1, 1}, {0, 1, LAST - 1, LAST}, {0, 0, 0, 0}, {0, 1, LAST - 1, LAST},
            {1080, 1080, LAST - 1, LAST}, {0, 0, 0, 0}, {0, 0, 0, 0}, {0, 0, 0, 0}, {0, 0, 0, 0}, {-4, -4, 0, 0}};
        for (int i = 0; i < minutes.length; i++) {
            int t = minutes[i];
            WhichDay x = atHome(HOME);
            x.row(0, INTS, 1);
            long[] got = {x.dayOf(1, t), x.hourOf(1, t), x.where(0, t, 0), x.in(0, t), x.day(0, t), x.dayBy(0, OWN, t), x.gain(0, OWN, t),
                x.begins(0, t), x.longDay(0, t), x.often(0, 13, t), x.duty(0, t, 0), x.differ(0, 0, t), x.agree(0, 0, t),
                x.part(0, HOME, OWN, t), x.wrong(0, t), x.bestLine(t, 0), x.moved(180, t), x.rounds(0, t), x.judge(0, 0, t, 1)};
            for (int c = 0; c < got.length; c++) due("call " + c + " at " + t, want[c][i], got[c]);
            due("a leg from " + t, 1, x.leg(0, 0, true, t, 1));
            WhichDay ship = atHome(SHIP);
            due("a change at " + t, 1, ship.captain(0, t, 1));
            row(ship, 0, INTS, t, t);
            due("duties at " + t, -4, ship.kept(0, 0, 0));
            due("a plan for " + t, 0, ship.plan(0, 0, 0));
            row(ship, 0, INTS, t, ship.dayBy(0, OWN, t));
            due("a log at " + t, 8, ship.log(0, 0));
        }
    }

    private static void minutesThatAreNot() {
        says("MINUTES t are 0 .. 19999: no others");
        int[] none = {-1, LAST + 1, MIN, MAX};
        refusedFor(SOME, "dayOf", BAD, (x, t) -> x.dayOf(0, t), none);
        refusedFor(SOME, "hourOf", -1, (x, t) -> x.hourOf(0, t), none);
        refusedFor(SOME, "leg", -1, (x, t) -> x.leg(2, 0, true, t, 1), none);
        refusedFor(SOME, "captain", -1, (x, t) -> x.captain(1, t, 1), none);
        refusedFor(SOME, "where", BAD_LONG, (x, t) -> x.where(0, t, 0), none);
        refusedFor(SOME, "in", -1, (x, t) -> x.in(0, t), none);
        refusedFor(SOME, "day", BAD, (x, t) -> x.day(0, t), none);
        refusedFor(SOME, "dayBy", BAD, (x, t) -> x.dayBy(0, 0, t), none);
        refusedFor(SOME, "gain", BAD, (x, t) -> x.gain(0, 0, t), none);
        refusedFor(SOME, "begins", -1, (x, t) -> x.begins(0, t), none);
        refusedFor(SOME, "longDay", -1, (x, t) -> x.longDay(0, t), none);
        refusedFor(SOME, "often", -1, (x, t) -> x.often(0, 0, t), none);
        refusedFor(SOME, "duty", -1, (x, t) -> x.duty(0, t, 0), none);
        refusedFor(SOME, "differ", BAD, (x, t) -> x.differ(0, 1, t), none);
        refusedFor(SOME, "agree", -1, (x, t) -> x.agree(0, 1, t), none);
        refusedFor(SOME, "part", -1, (x, t) -> x.part(0, 0, 1, t), none);
        refusedFor(SOME, "wrong", -1, (x, t) -> x.wrong(0, t), none);
        refusedFor(SOME, "bestLine", -1, (x, t) -> x.bestLine(t, 0), none);
        refusedFor(SOME, "moved", -1, (x, t) -> x.moved(0, t), none);
        refusedFor(SOME, "judge", -1, (x, t) -> x.judge(0, 3, t, 1), none);
        refusedFor(SOME, "judge of no elements", -1, (x, t) -> x.judge(0, 5, t, 1), none);
        refusedFor(SOME, "rounds", BAD, (x, t) -> x.rounds(0, t), none);
    }

    // ---- PLACES

    private static void places() {
        says("PLACES 0 .. 9 as they come");
        WhichDay x = full();
        for (int p = 0; p < 10; p++) due("degree of place " + p, p < 9 ? 40 * p : 359, x.place(p, 0));
        due("trade with the last", 0, x.trade(0, 9));
        due("choice of the last", 0, x.choose(9, 1));
        due("day of the last", 0, x.dayOf(9, 5));
        due("hour of the last", 1, x.hourOf(9, 5));
        due("to the last", 1, x.leg(7, 9, true, 0, 1));
        WhichDay one = with("p5 0 1;");
        due("the only one", 5, one.place(0, 0));
        for (Recipe r : new Recipe[] {FULL, SOME, FRESH}) {
            int n = r == FULL ? 10 : r == SOME ? 3 : 0;
            refusedFor(r, "place", BAD, (w, p) -> w.place(p, 0), n, -1, MIN, MAX);
            refusedFor(r, "trade", -1, (w, p) -> w.trade(0, p), n, -1, MIN, MAX);
            refusedFor(r, "trade", -1, (w, p) -> w.trade(p, 0), n, -1, MIN, MAX);
            refusedFor(r, "choose", BAD, (w, p) -> w.choose(p, 1), n, -1, MIN, MAX);
            refusedFor(r, "dayOf", BAD, (w, p) -> w.dayOf(p, 0), n, -1, MIN, MAX);
            refusedFor(r, "hourOf", -1, (w, p) -> w.hourOf(p, 0), n, -1, MIN, MAX);
            refusedFor(r, "traveller", -1, (w, p) -> w.traveller(0, p, 0), n, -1, MIN, MAX);
            refusedFor(r, "leg", -1, (w, p) -> w.leg(1, p, true, 9000, 1), n, -1, MIN, MAX);
        }
        WhichDay last = with("p0 0 1;".repeat(9) + "p7 0 1;");
        due("a home in the last", 0, last.traveller(0, 9, 0));
        due("in the last", 9, last.in(0, 0));
    }

    private static void degrees() {
        says("a DEGREE (0 .. 359, eastward)");
        WhichDay x = with("p0 0 1;p1 0 1;p358 0 1;p359 0 1;");
        int[] want = {0, 1, 358, 359};
        for (int p = 0; p < 4; p++) due("degree", want[p], x.place(p, 0));
        int was = 180;
        for (int degree : new int[] {0, 1, 358, 359}) {
            due("wrong with " + degree, 0, x.wrong(degree, 0));
            due("line to " + degree, was, x.line(degree));
            due("moved by it", 0, x.moved(degree, 0));
            due("line", degree, x.count(3));
            was = degree;
        }
        refusedFor(SOME, "line", -1, (w, n) -> w.line(n), -1, 360, MIN, MAX);
        refusedFor(SOME, "wrong", -1, (w, n) -> w.wrong(n, 0), -1, 360, MIN, MAX);
        refusedFor(SOME, "moved", -1, (w, n) -> w.moved(n, 0), -1, 360, MIN, MAX);
        // eastward: a degree more is 4 minutes more
        due("hour of 0 with the line at 359", 724, x.hourOf(0, 0));
        due("hour of 1 with the line at 359", 728, x.hourOf(1, 0));
    }

    private static void rules() {
        says("a RULE (0 MIDNIGHT, 1 SUNSET, 2 DAWN: where days begin)");
        WhichDay x = with("p0 0 1;p0 1 1;p0 2 1;");
        for (int p = 0; p < 3; p++) due("rule", p, x.place(p, 1));
        WhichDay y = new WhichDay();
        due("a rule 3", -2000, read(y, "p0 3 1;"));
        due("a rule 999", -2000, read(y, "p0 999 1;"));
        due("none came", 0, y.count(0));
    }

    private static void choices() {
        says("a CHOICE (-1, 0, 1)");
        WhichDay x = with("p0 0 1-;p0 0 1;p0 0 1+;");
        for (int p = 0; p < 3; p++) due("choice", p - 1, x.place(p, 2));
        for (int p = 0; p < 3; p++) due("day", p - 1, x.dayOf(p, 0));
        int was = -1;
        for (int n : new int[] {-1, 0, 1, -1}) {
            due("choose " + n, was, x.choose(0, n));
            due("chosen", n, x.place(0, 2));
            was = n;
        }
        refusedFor(SOME, "choose", BAD, (w, n) -> w.choose(1, n), -2, 2, MIN, MAX);
    }

    private static void people() {
        says("PEOPLE (0 .. 999)");
        WhichDay x = with("p0 0 0;p0 0 1;p0 0 998;p0 0 999;");
        int[] want = {0, 1, 998, 999};
        for (int p = 0; p < 4; p++) due("people", want[p], x.place(p, 3));
        due("all", 1998, x.count(4));
        due("too many", -1008, read(new WhichDay(), "p0 0 1000;"));
        WhichDay most = with("p0 0 999;".repeat(10));
        due("most of all", 9990, most.count(4));
    }

    // ---- THE LINE, EAST, DAY, HOUR

    private static void lineAtFirst() {
        says("THE LINE is at a DEGREE (0 .. 359; 180 at first)");
        WhichDay x = new WhichDay();
        due("at first", 180, x.count(3));
        due("where it was", 180, x.line(0));
        due("at its least", 0, x.line(359));
        due("at its greatest", 359, x.line(180));
    }

    private static void eastOfTheLine() {
        says("EAST of the LINE by e: x less the LINE, 360 more till it is 0 or more, below 360");
        WhichDay x = with("p0 0 1;p1 0 1;p179 0 1;p180 0 1;p181 0 1;p358 0 1;p359 0 1;");
        // hour at 0: 4 e less 720, of a day; e 0: 720, 1: 724, 359: 716; day at 0: below 0 till e is 180
        int[][] rows = {{180, 3, 0}, {180, 4, 1}, {180, 2, 359}, {0, 0, 0}, {0, 1, 1}, {0, 6, 359}, {0, 5, 358}, {359, 6, 0}, {359, 0, 1},
            {359, 5, 359}, {1, 0, 359}, {1, 1, 0}, {358, 0, 2}, {181, 3, 359}, {179, 3, 1}};
        for (int[] r : rows) {
            x.line(r[0]);
            due("hour of place " + r[1] + " with the line at " + r[0], (4 * r[2] + 720) % 1440, x.hourOf(r[1], 0));
            due("day of place " + r[1] + " with the line at " + r[0], r[2] < 180 ? -1 : 0, x.dayOf(r[1], 0));
        }
        WhichDay half = with("p179 0 1;p180 0 1;p181 0 1;l0;");
        due("e 179", -1, half.dayOf(0, 0));
        due("e 180", 0, half.dayOf(1, 0));
        due("e 181", 0, half.dayOf(2, 0));
    }

    private static void eastOfTheLineByFractions() {
        says("EAST of the LINE .. below 360 (fractions count)");
        WhichDay west = with("p1 0 1;p359 0 1;l0;", COUNT, 0, 0);
        west.leg(0, 1, false, 0, 1);
        due("a thirtieth of a degree ahead of the line", -1, west.day(0, 29));
        due("on it", -1, west.day(0, 30));
        due("a thirtieth west of it", 0, west.day(0, 31));
        WhichDay east = with("p359 0 1;p1 0 1;l0;", COUNT, 0, 0);
        east.leg(0, 1, true, 0, 1);
        due("a thirtieth of a degree west of the line", 0, east.day(0, 29));
        due("on it", -1, east.day(0, 30));
        due("a thirtieth behind it", -1, east.day(0, 31));
    }

    private static void dayRoundedDown() {
        says("DAY at x by a RULE: .. by 1440, rounded down");
        WhichDay x = with("p180 0 1;");
        int[][] rows = {{0, -1}, {719, -1}, {720, 0}, {721, 0}, {2159, 0}, {2160, 1}, {2161, 1}};
        for (int[] r : rows) due("day at " + r[0], r[1], x.dayOf(0, r[0]));
        // a degree in an hour: 4 minutes in 60; at 718 it is 4/5 of a minute below 0
        WhichDay east = with("p0 0 1;p1 0 1;l0;", COUNT, 0, 0);
        east.leg(0, 1, true, 700, 1);
        due("4/5 of a minute below 0", -1, east.day(0, 718));
        due("4/15 of a minute above", 0, east.day(0, 719));
        WhichDay west = with("p1 0 1;p0 0 1;l0;", COUNT, 0, 0);
        west.leg(0, 1, false, 700, 1);
        due("2/15 of a minute below 0", -1, west.day(0, 717));
        due("4/5 of a minute above", 0, west.day(0, 718));
        // 15 degrees in an hour: a minute in a minute, so that 0 is met exactly
        WhichDay even = with("p0 0 1;p15 0 1;l0;", COUNT, 0, 0);
        even.leg(0, 1, true, 700, 1);
        due("two minutes below 0", -1, even.day(0, 709));
        due("just 0", 0, even.day(0, 710));
    }

    private static void dayByRules() {
        says("360 more by SUNSET, 360 less by DAWN");
        WhichDay x = with("p0 0 1;p0 1 1;p0 2 1;");
        int[][] rows = {{0, 0, 0}, {0, 1439, 0}, {0, 1440, 1}, {1, 0, 0}, {1, 1079, 0}, {1, 1080, 1}, {1, 2519, 1}, {1, 2520, 2},
            {2, 0, -1}, {2, 359, -1}, {2, 360, 0}, {2, 1799, 0}, {2, 1800, 1}};
        for (int[] r : rows) due("day by rule " + r[0] + " at " + r[1], r[2], x.dayOf(r[0], r[1]));
    }

    private static void dayOutermost() {
        says("and the CHOICE of the PLACE, if one is in one: the least and the greatest DAY");
        WhichDay x = with("p180 2 1-;p179 1 1+;");
        int[][] rows = {{0, 0, -2}, {0, 1079, -2}, {0, 1080, -1}, {1, LAST, 15}, {1, 19083, 14}, {1, 19084, 15}};
        for (int[] r : rows) due("day of " + r[0] + " at " + r[1], r[2], x.dayOf(r[0], r[1]));
        // under way there is no choice, and no rule but midnight
        WhichDay y = with("p0 1 1+;p0 2 1-;", PLACE, 0, 0);
        y.leg(0, 1, true, 1100, 1);
        due("in the first place", 2, y.day(0, 1100));
        due("under way", 0, y.day(0, 1101));
        due("under way", 0, y.day(0, 1159));
        due("in the other one", -1, y.day(0, 1160));
    }

    private static void hour() {
        says("HOUR: the minutes of its day by MIDNIGHT (0 .. 1439), cut to whole ones");
        WhichDay x = with("p0 0 1;p0 1 1;p0 2 1-;p180 0 1;p179 0 1;");
        int[][] rows = {{0, 0, 0}, {0, 1, 1}, {0, 1438, 1438}, {0, 1439, 1439}, {0, 1440, 0}, {1, 1439, 1439}, {1, 1440, 0},
            {2, 1439, 1439}, {2, 0, 0}, {3, 0, 720}, {3, 719, 1439}, {3, 720, 0}, {4, 0, 716}, {4, 723, 1439}, {4, 724, 0}};
        for (int[] r : rows) due("hour of " + r[0] + " at " + r[1], r[2], x.hourOf(r[0], r[1]));
    }

    // ---- TRAVELLERS, KINDS, STAY

    private static void travellers() {
        says("TRAVELLERS 0 .. 7 as they come");
        WhichDay x = with("p0 0 1;");
        for (int k = 0; k < 8; k++) {
            due("so many", k, x.count(1));
            due("its number", k, x.traveller(COUNT, 0, 0));
        }
        due("the last one", 0, x.day(7, 0));
        refused(FULL, "a ninth", -2, w -> w.traveller(COUNT, 0, 0));
        for (Recipe r : new Recipe[] {FULL, SOME, FRESH}) {
            int n = r == FULL ? 8 : r == SOME ? 3 : 0;
            int[] none = {n, -1, MIN, MAX};
            refusedFor(r, "leg", -1, (w, k) -> w.leg(k, 0, true, 9000, 1), none);
            refusedFor(r, "captain", -1, (w, k) -> w.captain(k, 0, 1), none);
            refusedFor(r, "where", BAD_LONG, (w, k) -> w.where(k, 0, 0), none);
            refusedFor(r, "in", -1, (w, k) -> w.in(k, 0), none);
            refusedFor(r, "day", BAD, (w, k) -> w.day(k, 0), none);
            refusedFor(r, "dayBy", BAD, (w, k) -> w.dayBy(k, 0, 0), none);
            refusedFor(r, "gain", BAD, (w, k) -> w.gain(k, 0, 0), none);
            refusedFor(r, "begins", -1, (w, k) -> w.begins(k, 0), none);
            refusedFor(r, "longDay", -1, (w, k) -> w.longDay(k, 0), none);
            refusedFor(r, "often", -1, (w, k) -> w.often(k, 0, 0), none);
            refusedFor(r, "duty", -1, (w, k) -> w.duty(k, 0, 0), none);
            refusedFor(r, "differ", BAD, (w, k) -> w.differ(k, 0, 0), none);
            refusedFor(r, "differ", BAD, (w, k) -> w.differ(0, k, 0), none);
            refusedFor(r, "agree", -1, (w, k) -> w.agree(k, 0, 0), none);
            refusedFor(r, "agree", -1, (w, k) -> w.agree(0, k, 0), none);
            refusedFor(r, "part", -1, (w, k) -> w.part(k, 0, 1, 0), none);
            refusedFor(r, "judge", -1, (w, k) -> w.judge(k, 4, 0, 1), none);
            refusedFor(r, "kept", -1, (w, k) -> w.kept(k, 4, 0), none);
            refusedFor(r, "rounds", BAD, (w, k) -> w.rounds(k, 0), none);
            refusedFor(r, "log", -1, (w, k) -> w.log(k, 3), none);
            refusedFor(r, "plan", -1, (w, k) -> w.plan(k, 4, 0), none);
            refusedFor(r, "keep", -1, (w, k) -> w.keep(2, 1, k), none);
        }
    }

    private static void kinds() {
        says("KINDS of COUNTS: 0 COUNT .. 7 STRICT");
        WhichDay x = with("p0 0 1;");
        for (int kind = 0; kind < 8; kind++) {
            due("of kind " + kind, kind, x.traveller(kind, 0, 0));
            due("by kind " + kind, 0, x.dayBy(0, kind, 0));
            due("gain by kind " + kind, 0, x.gain(0, kind, 0));
        }
        due("by the first and the last kind", -4, x.part(0, COUNT, STRICT, 0));
        due("by the last and the first kind", -4, x.part(0, STRICT, COUNT, 0));
        int[] none = {-1, 8, MIN, MAX};
        refusedFor(SOME, "traveller", -1, (w, n) -> w.traveller(n, 0, 0), none);
        refusedFor(SOME, "dayBy", BAD, (w, n) -> w.dayBy(0, n, 0), none);
        refusedFor(SOME, "gain", BAD, (w, n) -> w.gain(0, n, 0), none);
        refusedFor(SOME, "part", -1, (w, n) -> w.part(0, n, 0, 0), none);
        refusedFor(SOME, "part", -1, (w, n) -> w.part(0, 7, n, 0), none);
    }

    private static void stay() {
        says("a STAY (0 .. 30 days)");
        WhichDay x = with("p0 0 1;");
        int[] stays = {0, 1, 29, 30};
        for (int k = 0; k < 4; k++) {
            due("with a stay of " + stays[k], k, x.traveller(SETTLED, 0, stays[k]));
            x.keep(k, 1, k);
            due("its weight", 20 + stays[k], x.weight(k));
        }
        for (int kind = 0; kind < 8; kind++) {
            int ofKind = kind;
            refusedFor(SOME, "traveller of kind " + kind, -1, (w, n) -> w.traveller(ofKind, 0, n), -1, 31, MIN, MAX);
        }
    }

    // ---- LEGS

    private static void mostLegs() {
        says("LEGS (6 at most each, told in order)");
        WhichDay x = with("p0 0 1;p60 0 1;", COUNT, 0, 0);
        x.traveller(COUNT, 0, 0);
        for (int k = 0; k < 6; k++) due("leg " + k, k + 1, x.leg(0, 1 - k % 2, true, 60 * k, 1));
        due("a seventh", -2, x.leg(0, 1, true, 360, 1));
        due("a seventh", -2, x.leg(0, 1, true, LAST, 200));
        due("six", 6, x.count(2));
        due("another one's first", 1, x.leg(1, 1, true, 0, 1));
        due("seven in all", 7, x.count(2));
        refused(FULL, "a seventh leg", -2, w -> w.leg(0, 0, true, 9000, 1));
        refused(FULL, "a seventh leg from the end on", -2, w -> w.leg(0, 0, true, 870, 1));
    }

    private static void fromMinutesOn() {
        says("from a MINUTE on (not ahead of the end of the LEG ahead)");
        for (int from : new int[] {160, 161}) {
            WhichDay x = with("p0 0 1;p60 0 1;", COUNT, 0, 0);
            x.leg(0, 1, true, 100, 1);
            due("from " + from, 2, x.leg(0, 0, true, from, 1));
        }
        // the second leg of traveller 0 ends at 1600, the only one of 1 at 2200
        refusedFor(SOME, "leg", -3, (w, t) -> w.leg(0, 0, true, t, 1), 1599, 1000, 160, 0);
        refusedFor(SOME, "leg", -3, (w, t) -> w.leg(1, 0, true, t, 1), 2199, 1001, 1000, 999, 0);
        WhichDay first = with("p0 0 1;", COUNT, 0, 0);
        due("the first from 0", 1, first.leg(0, 0, true, 0, 1));
        due("another one from its end", 2, first.leg(0, 0, true, 60, 1));
    }

    private static void hours() {
        says("so many HOURS (1 .. 200)");
        for (int hours : new int[] {1, 2, 199, 200}) {
            WhichDay x = with("p0 0 1;p60 0 1;", COUNT, 0, 0);
            due("a leg of " + hours, 1, x.leg(0, 1, true, 10, hours));
            due("ahead of its end", -4, x.in(0, 10 + 60 * hours - 1));
            due("at its end", 1, x.in(0, 10 + 60 * hours));
        }
        refusedFor(SOME, "leg", -1, (w, n) -> w.leg(0, 0, true, 9000, n), 0, 201, -1, MIN, MAX);
    }

    private static void endBehindAll() {
        says("its end may be behind 19999");
        int[][] rows = {{LAST - 60, 1, 1}, {LAST - 59, 1, -4}, {LAST - 1, 1, -4}, {LAST, 1, 0}, {LAST, 200, 0}, {LAST - 12000, 200, 1},
            {LAST - 11999, 200, -4}};
        for (int[] r : rows) {
            WhichDay x = with("p0 0 1;p60 0 1;", COUNT, 0, 0);
            due("from " + r[0], 1, x.leg(0, 1, true, r[0], r[1]));
            due("in at the last minute", r[2], x.in(0, LAST));
            due("one more from the last minute on", r[2] == 1 ? 2 : -3, x.leg(0, 1, true, LAST, 1));
        }
    }

    private static void evenMotion() {
        says("it moves evenly from where it was to that PLACE in that direction (0 .. 359 degrees)");
        // home at a, to b: degrees eastward and westward, 120 minutes; at the sixtieth half of it is gone
        int[][] rows = {{0, 1}, {0, 359}, {0, 358}, {359, 0}, {359, 1}, {180, 0}, {0, 180}, {7, 8}, {8, 7}};
        for (int[] r : rows) {
            int east = (r[1] - r[0] + 360) % 360, west = (r[0] - r[1] + 360) % 360;
            for (boolean isEast : new boolean[] {true, false}) {
                WhichDay x = with("p" + r[0] + " 0 1;p" + r[1] + " 0 1;", COUNT, 0, 0);
                x.leg(0, 1, isEast, 0, 2);
                int half = 2 * r[0] + (isEast ? east : -west);
                half = half < 0 ? half + 720 : half >= 720 ? half - 720 : half;
                due("half way from " + r[0] + " to " + r[1], half % 2 == 0 ? half / 2 : half, x.where(0, 60, 0));
                due("its below", half % 2 == 0 ? 1 : 2, x.where(0, 60, 1));
                due("at the end", r[1], x.where(0, 120, 0));
            }
        }
        WhichDay far = with("p0 0 1;p359 0 1;", COUNT, 0, 0);
        far.leg(0, 1, true, 0, 1);
        due("359 degrees gone east: on from the line", 1, far.rounds(0, 60));
        WhichDay back = with("p0 0 1;p1 0 1;", COUNT, 0, 0);
        back.leg(0, 1, false, 0, 1);
        due("359 degrees gone west: back over the line", -1, back.rounds(0, 60));
    }

    private static void byNoDegrees() {
        says("by 0 one is UNDER WAY, too");
        for (boolean east : new boolean[] {true, false})
            for (int to = 0; to < 2; to++) {
                WhichDay x = with("p70 0 1;p70 0 1;", STRICT, 0, 0);
                x.leg(0, to, east, 10, 1);
                int[][] rows = {{9, 0, 0}, {10, 0, 0}, {11, -4, 1}, {40, -4, 1}, {69, -4, 1}, {70, to, 0}, {71, to, 0}};
                for (int[] r : rows) {
                    due("in at " + r[0], r[1], x.in(0, r[0]));
                    due("1 more at " + r[0], r[2], x.gain(0, STRICT, r[0]));
                    due("where at " + r[0], 70, x.where(0, r[0], 0));
                    due("its below at " + r[0], 1, x.where(0, r[0], 1));
                    due("rounds at " + r[0], 0, x.rounds(0, r[0]));
                }
            }
    }

    private static void firstAndLastMinuteOfALeg() {
        says("At its first MINUTE one is still, at its end already, in a PLACE; between these UNDER WAY");
        WhichDay x = with("p0 0 1;p60 0 1;p90 0 1;", COUNT, 0, 0);
        x.leg(0, 1, true, 0, 1);
        x.leg(0, 2, true, 60, 1);
        x.leg(0, 0, true, 121, 2);
        int[][] rows = {{0, 0}, {1, -4}, {59, -4}, {60, 1}, {61, -4}, {119, -4}, {120, 2}, {121, 2}, {122, -4}, {240, -4}, {241, 0},
            {242, 0}};
        for (int[] r : rows) due("in at " + r[0], r[1], x.in(0, r[0]));
    }

    private static void aheadBetweenBehind() {
        says("Ahead of the first LEG one is at HOME, between LEGS and behind them where one came");
        WhichDay x = with("p0 0 1;p60 0 1;p90 0 1;", COUNT, 2, 0);
        due("without legs", 2, x.in(0, 0));
        due("without legs", 2, x.in(0, LAST));
        x.leg(0, 1, true, 1000, 1);
        x.leg(0, 0, false, 3000, 1);
        int[][] rows = {{0, 2}, {1000, 2}, {1001, -4}, {1060, 1}, {2999, 1}, {3000, 1}, {3001, -4}, {3060, 0}, {LAST, 0}};
        for (int[] r : rows) due("in at " + r[0], r[1], x.in(0, r[0]));
    }

    // ---- WHERE, SEEN, ROUNDS

    private static void whereRoundTheWorld() {
        says("WHERE: DEGREE of HOME and GONE, 360 more or less till it is 0 or more, below 360");
        WhichDay east = with("p359 0 1;p0 0 1;p1 0 1;", COUNT, 0, 0);
        east.leg(0, 2, true, 100, 2);
        long[][] rows = {{100, 359, 1}, {159, 359 * 60 + 59, 60}, {160, 0, 1}, {161, 1, 60}, {220, 1, 1}};
        for (long[] r : rows) where(east, r);
        WhichDay west = with("p1 0 1;p0 0 1;p359 0 1;", COUNT, 0, 0);
        west.leg(0, 2, false, 100, 2);
        long[][] back = {{100, 1, 1}, {159, 1, 60}, {160, 0, 1}, {161, 359 * 60 + 59, 60}, {220, 359, 1}};
        for (long[] r : back) where(west, r);
        WhichDay rounds = manyRounds(true);
        due("six times 359 degrees eastward", 354, rounds.where(0, LAST, 0));
        due("in the sixth place", 6, rounds.in(0, LAST));
        WhichDay less = manyRounds(false);
        due("six times 359 degrees westward", 6, less.where(0, LAST, 0));
    }

    private static void where(WhichDay x, long[] r) {
        due("above at " + r[0], r[1], x.where(0, (int) r[0], 0));
        due("below at " + r[0], r[2], x.where(0, (int) r[0], 1));
    }

    /** Six legs of 359 degrees each, an hour each, from 0 on; the line at 0. */
    private static WhichDay manyRounds(boolean east) {
        StringBuilder s = new StringBuilder("l0;");
        for (int p = 0; p < 7; p++) s.append("p").append(east ? (360 - p) % 360 : p).append(" 0 1;");
        WhichDay x = with(s.toString(), COUNT, 0, 0);
        for (int k = 0; k < 6; k++) x.leg(0, k + 1, east, 60 * k, 1);
        return x;
    }

    private static void whereInLeastTerms() {
        says("WHERE at t: above, below the line, in least terms");
        WhichDay x = with("p0 0 1;p90 0 1;", COUNT, 0, 0);
        x.leg(0, 1, true, 0, 1);
        long[][] rows = {{0, 0, 1}, {1, 3, 2}, {2, 3, 1}, {20, 30, 1}, {59, 177, 2}, {60, 90, 1}};
        for (long[] r : rows) where(x, r);
        WhichDay slow = with("p0 0 1;p1 0 1;", COUNT, 0, 0);
        slow.leg(0, 1, true, 0, 200);
        long[][] slowly = {{1, 1, 12000}, {2, 1, 6000}, {7, 7, 12000}, {3000, 1, 4}, {11999, 11999, 12000}, {12000, 1, 1}};
        for (long[] r : slowly) where(slow, r);
        WhichDay far = with("p0 0 1;p359 0 1;", COUNT, 0, 0);
        far.leg(0, 1, true, 0, 200);
        where(far, new long[] {11999, 4307641, 12000});
        refusedFor(SOME, "where", BAD_LONG, (w, part) -> w.where(0, 0, part), -1, 2, MIN, MAX);
    }

    private static void homesDay() {
        says("HOME's DAY: DAY there by its RULE and CHOICE");
        WhichDay x = with("p0 1 1+;p90 0 1;", HOME, 0, 0);
        x.leg(0, 1, true, 0, 1);
        int[][] rows = {{0, 1}, {30, 1}, {1079, 1}, {1080, 2}};
        for (int[] r : rows) due("day at " + r[0], r[1], x.day(0, r[0]));
    }

    private static void heresDay() {
        says("HERE's DAY: .. by RULE and CHOICE of the PLACE if one is in one, UNDER WAY by MIDNIGHT");
        WhichDay x = with("p0 2 1;p0 1 1+;", PLACE, 0, 0);
        x.leg(0, 1, true, 100, 1);
        int[][] rows = {{0, -1}, {100, -1}, {101, 0}, {159, 0}, {160, 1}, {1079, 1}, {1080, 2}};
        for (int[] r : rows) due("day at " + r[0], r[1], x.day(0, r[0]));
    }

    private static void seen() {
        says("SEEN: ( t and 4 times (EAST of HOME, and GONE) less 720 ), 360 more (sunsets), by 1440, rounded down");
        WhichDay x = with("p180 0 1;", OWN, 0, 0);
        int[][] rows = {{0, -1}, {359, -1}, {360, 0}, {1799, 0}, {1800, 1}};
        for (int[] r : rows) due("seen at " + r[0], r[1], x.day(0, r[0]));
        WhichDay east = with("p180 0 1;p181 0 1;", OWN, 0, 0);
        east.leg(0, 1, true, 340, 1);
        due("4/5 of a minute below 0", -1, east.day(0, 358));
        due("4/15 of a minute above", 0, east.day(0, 359));
        // over the line it goes on: 6 times 359 degrees are 8616 minutes
        WhichDay rounds = manyRounds(true);
        due("at the end of all", (360 + 8616 - 360) / 1440, rounds.dayBy(0, OWN, 360));
        due("ahead of a sixth day", 5, rounds.dayBy(0, OWN, 383));
        due("a sixth day", 6, rounds.dayBy(0, OWN, 384));
        WhichDay less = manyRounds(false);
        due("a day below", -6, less.dayBy(0, OWN, 360));
        due("ahead of the next", -6, less.dayBy(0, OWN, 1775));
        due("the next", -5, less.dayBy(0, OWN, 1776));
    }

    private static void roundsRoundedDown() {
        says("ROUNDS: EAST of HOME and GONE, by 360, rounded down");
        WhichDay east = with("p179 0 1;p181 0 1;", COUNT, 0, 0);
        east.leg(0, 1, true, 0, 1);
        int[][] rows = {{0, 0}, {29, 0}, {30, 1}, {31, 1}, {LAST, 1}};
        for (int[] r : rows) due("rounds at " + r[0], r[1], east.rounds(0, r[0]));
        WhichDay west = with("p181 0 1;p179 0 1;", COUNT, 0, 0);
        west.leg(0, 1, false, 0, 1);
        int[][] back = {{0, 0}, {29, 0}, {30, 0}, {31, -1}, {LAST, -1}};
        for (int[] r : back) due("rounds at " + r[0], r[1], west.rounds(0, r[0]));
        due("2154 degrees", 5, manyRounds(true).rounds(0, 360));
        due("2154 degrees less", -6, manyRounds(false).rounds(0, 360));
        // a whole round and no more: 359 and 1 degrees
        WhichDay whole = with("p0 0 1;p359 0 1;l0;", COUNT, 0, 0);
        whole.leg(0, 1, true, 0, 1);
        whole.leg(0, 0, true, 60, 1);
        due("a minute ahead of a round", 0, whole.rounds(0, 119));
        due("a round", 1, whole.rounds(0, 120));
        WhichDay minus = with("p0 0 1;p1 0 1;l0;", COUNT, 0, 0);
        minus.leg(0, 1, false, 0, 1);
        minus.leg(0, 0, false, 60, 1);
        due("just less", -1, minus.rounds(0, 1));
        due("a round less", -1, minus.rounds(0, 120));
    }

    // ---- what a COUNT tells

    private static void count() {
        says("COUNT: HERE's by MIDNIGHT without CHOICE");
        WhichDay x = with("p0 1 1+;p0 2 1-;", COUNT, 0, 0);
        x.leg(0, 1, true, 1000, 1);
        for (int t : new int[] {0, 1000, 1001, 1059, 1060, 1439}) due("at " + t, 0, x.day(0, t));
        due("the next", 1, x.day(0, 1440));
    }

    private static void own() {
        says("OWN: SEEN");
        WhichDay x = with("p0 0 1+;", OWN, 0, 0);
        due("without rule and choice", 0, x.day(0, 1079));
        due("from sunset on", 1, x.day(0, 1080));
        x.line(90);
        due("with the line at 90", 0, x.day(0, 719));
        due("with the line at 90", 1, x.day(0, 720));
    }

    private static void ship() {
        says("SHIP: an OWN's and what the captain told (sums of changes .. at or ahead of t)");
        WhichDay x = with("p0 0 1;", SHIP, 0, 0);
        x.captain(0, 500, 1);
        due("ahead of it", 0, x.day(0, 499));
        due("at it", 1, x.day(0, 500));
        x.captain(0, 500, 1);
        x.captain(0, 400, -1);
        int[][] rows = {{399, 0}, {400, -1}, {499, -1}, {500, 1}, {LAST, 15}};
        for (int[] r : rows) due("at " + r[0], r[1], x.day(0, r[0]));
        x.captain(0, 0, 1);
        due("told for 0", 1, x.day(0, 0));
        x.captain(0, LAST, 1);
        due("ahead of the last minute", 16, x.day(0, LAST - 1));
        due("told for the last minute", 17, x.day(0, LAST));
        due("no other count has it", 14, x.dayBy(0, OWN, LAST));
        due("nor a turn", 14, x.dayBy(0, TURN, LAST));
    }

    private static void mostChanges() {
        says("changes, 1 or -1 each, told for MINUTES (8 at most)");
        WhichDay x = with("p0 0 1;", SHIP, 0, 0);
        x.traveller(SHIP, 0, 0);
        for (int i = 1; i <= 8; i++) due("change " + i, i, x.captain(0, 0, -1));
        due("all of them", -8, x.day(0, 0));
        due("of another one the first", 1, x.captain(1, 0, 1));
        refused(FULL, "a ninth change", -2, w -> w.captain(0, 0, 1));
        refused(FULL, "a ninth change", -2, w -> w.captain(0, LAST, -1));
        refusedFor(SOME, "captain", -1, (w, by) -> w.captain(1, 0, by), 0, 2, -2, MIN, MAX);
    }

    private static void turn() {
        says("TURN: an OWN's less ROUNDS (eastward over the LINE a day is twice, westward one is not)");
        WhichDay east = with("p179 0 1;p181 0 1;", TURN, 0, 0);
        east.leg(0, 1, true, 0, 1);
        // t and 4 times 359 less 360: day 0 till the line, then one less; from 360 on (at 181: 356) day 0 again
        int[][] rows = {{0, 0}, {29, 0}, {30, -1}, {355, -1}, {356, 0}};
        for (int[] r : rows) due("eastward at " + r[0], r[1], east.day(0, r[0]));
        due("day 0 is twice", 2, east.often(0, 0, LAST));
        WhichDay west = with("p181 0 1;p179 0 1;", TURN, 0, 0);
        west.leg(0, 1, false, 330, 1);
        // on the line at 360: day 0, from -1 on; behind it one more
        int[][] back = {{355, -1}, {357, -1}, {359, -1}, {360, 0}, {361, 1}, {362, 1}};
        for (int[] r : back) due("westward at " + r[0], r[1], west.day(0, r[0]));
        due("day 0 for a minute", 1, west.longDay(0, 360));
        WhichDay never = with("p181 0 1;p179 0 1;", TURN, 0, 0);
        never.leg(0, 1, false, 1000, 1);
        // at 1030 on the line day 0, behind it day 1; that ends at 1440 and 364 more
        due("on the line", 0, never.day(0, 1030));
        due("behind it", 1, never.day(0, 1031));
        due("most of day 0 was not", 1031 - 356, never.longDay(0, 1030));
    }

    private static void settledFrom() {
        says("SETTLED: .. from STAY times 1440 MINUTES behind the end of the last LEG that came there on, a PLACE's");
        for (int stay : new int[] {0, 1, 2, 13}) {
            WhichDay x = with("p0 0 1;p0 0 1+;", SETTLED, 0, stay);
            x.leg(0, 1, true, 0, 1);
            int from = 60 + 1440 * stay;
            due("ahead of it with a stay of " + stay, 0, x.gain(0, SETTLED, from - 1));
            due("at it with a stay of " + stay, 1, x.gain(0, SETTLED, from));
            due("behind it with a stay of " + stay, 1, x.gain(0, SETTLED, LAST));
        }
        int[][] rows = {{1219, 1}, {1220, 0}};
        for (int[] r : rows) {
            WhichDay x = with("p0 0 1;p0 0 1+;", SETTLED, 0, 13);
            x.leg(0, 1, true, r[0], 1);
            due("a stay till the last minute from " + r[0], r[1], x.gain(0, SETTLED, LAST));
        }
        for (int stay : new int[] {14, 30}) {
            WhichDay x = with("p0 0 1;p0 0 1+;", SETTLED, 0, stay);
            x.leg(0, 1, true, 0, 1);
            due("never with a stay of " + stay, 0, x.gain(0, SETTLED, LAST));
        }
    }

    private static void settledElsewhere() {
        says("SETTLED: HOME's; but in a PLACE (of another number than HOME)");
        WhichDay x = with("p0 0 1;p0 0 1+;", SETTLED, 0, 0);
        due("at home", 0, x.day(0, 0));
        x.leg(0, 1, true, 100, 1);
        x.leg(0, 0, true, 300, 1);
        x.leg(0, 0, true, 500, 1);
        int[][] rows = {{100, 0}, {101, 0}, {159, 0}, {160, 1}, {300, 1}, {301, 0}, {360, 0}, {500, 0}, {560, 0}};
        for (int[] r : rows) due("at " + r[0], r[1], x.day(0, r[0]));
        WhichDay last = with("p0 0 1;p0 0 1;p5 1 1;p0 0 1-;", SETTLED, 1, 0);
        last.leg(0, 3, false, 0, 1);
        due("another number, the same degree", -1, last.day(0, 60));
    }

    private static void settledLastLeg() {
        says("SETTLED: behind the end of the last LEG that came there");
        WhichDay x = with("p0 0 1;p0 0 1+;p0 0 1-;", SETTLED, 0, 1);
        x.leg(0, 1, true, 0, 1);
        x.leg(0, 2, true, 2000, 1);
        x.leg(0, 1, true, 4000, 1);
        int[][] rows = {{1499, 0}, {1500, 1}, {2000, 1}, {2001, 0}, {2060, 0}, {3499, 0}, {3500, -1}, {4000, -1}, {4001, 0}, {4060, 0},
            {5499, 0}, {5500, 1}};
        for (int[] r : rows) due("gain at " + r[0], r[1], x.gain(0, SETTLED, r[0]));
    }

    private static void strict() {
        says("STRICT: HOME's, 1 more while UNDER WAY");
        WhichDay x = with("p0 2 1+;p0 0 1;", STRICT, 0, 0);
        x.leg(0, 1, true, 400, 1);
        int[][] rows = {{359, 0}, {360, 1}, {400, 1}, {401, 2}, {459, 2}, {460, 1}, {1799, 1}, {1800, 2}};
        for (int[] r : rows) due("at " + r[0], r[1], x.day(0, r[0]));
    }

    // ---- WEIGHT, SHELVES, ROWS

    private static void weights() {
        says("WEIGHT of a TRAVELLER");
        String ten = "p0 0 1;".repeat(10);
        // by kind: without legs at home in 0 with stay 0; with six legs at home in 9 with stay 30
        int[] least = {10, 11, 20, 10, 11, 22, 20, 110};
        int[] most = {16, 17, 32, 25, 25, 34, 62, 125};
        for (int kind = 0; kind < 8; kind++) {
            WhichDay x = with(ten);
            x.traveller(kind, 0, 0);
            x.traveller(kind, 9, 30);
            for (int k = 0; k < 6; k++) x.leg(1, 0, true, 60 * k, 1);
            for (int k = 0; k < 8; k++) x.captain(1, 0, 1);
            x.keep(0, 1, 0);
            x.keep(1, 1, 1);
            due("of kind " + kind, least[kind], x.weight(0));
            due("of kind " + kind + " with most of all", most[kind], x.weight(1));
            x.leg(0, 9, true, 0, 1);
            due("of kind " + kind + " with a leg", least[kind] + (kind == PLACE || kind == TURN || kind == SETTLED ? 2 : 1), x.weight(0));
        }
    }

    private static void shelves() {
        says("SHELVES 0 .. 7 each hold nothing (at first)");
        WhichDay x = with("p0 0 1;", COUNT, 0, 0);
        WhichDay y = new WhichDay();
        for (int d = 0; d < 8; d++) {
            due("nothing at first on " + d, -11, y.weight(d));
            due("a row on " + d, 0, x.row(d, INTS, 1));
            due("a traveller on " + d, 0, x.keep(d, 1, 0));
            due("it is there", 10, x.weight(d));
        }
        for (int d = 0; d < 8; d++) due("still nothing on " + d, -11, y.put(d, 0, 0));
        int[] none = {-1, 8, MIN, MAX};
        refusedFor(SOME, "world", -1, (w, d) -> w.world(d), none);
        refusedFor(SOME, "judge", -1, (w, d) -> w.judge(0, d, 0, 1), none);
        refusedFor(SOME, "kept", -1, (w, d) -> w.kept(0, d, 0), none);
        refusedFor(SOME, "log", -1, (w, d) -> w.log(0, d), none);
        refusedFor(SOME, "plan", -1, (w, d) -> w.plan(0, d, 0), none);
        refusedFor(SOME, "keep", -1, (w, d) -> w.keep(d, 1, 0), none);
        refusedFor(SOME, "keep nothing", -1, (w, d) -> w.keep(d, 0, 0), none);
        refusedFor(SOME, "row", -1, (w, d) -> w.row(d, INTS, 1), none);
        refusedFor(SOME, "put", -1, (w, d) -> w.put(d, 0, 9), none);
        refusedFor(SOME, "element", Long.MIN_VALUE, (w, d) -> element(w, d, 0), none);
        refusedFor(SOME, "copy", -1, (w, d) -> w.copy(d, 0, 3, 1, 1), none);
        refusedFor(SOME, "copy", -1, (w, d) -> w.copy(3, 0, d, 1, 1), none);
        refusedFor(SOME, "weight", -1, (w, d) -> w.weight(d), none);
        refusedFor(SOME, "toss", -1, (w, d) -> w.toss(d), none);
    }

    private static void rowSizes() {
        says("A ROW has .. 0 .. 100 elements, 0 at first");
        for (int sort = 0; sort < 3; sort++)
            for (int n : new int[] {0, 1, 99, 100}) {
                WhichDay x = new WhichDay();
                due("a row of " + n, 0, x.row(0, sort, n));
                for (int i = 0; i < n; i++) due("element " + i, 0, element(x, 0, i));
                due("none behind them", Long.MAX_VALUE, element(x, 0, n));
                due("none ahead of them", Long.MAX_VALUE, element(x, 0, -1));
                due("put in the last", n == 0 ? -13 : 0, x.put(0, n - 1, 1));
                due("put behind it", -13, x.put(0, n, 1));
                due("all of it onto itself", n, x.copy(0, 0, 0, 0, n));
                due("one more than all", -13, x.copy(0, 0, 0, 0, n + 1));
            }
        refusedFor(SOME, "row", -1, (w, n) -> w.row(3, SHORTS, n), 101, MAX);
        refusedFor(SOME, "row", -14, (w, n) -> w.row(3, SHORTS, n), -1, MIN);
    }

    private static void rowSorts() {
        says("A ROW has a SORT (0 bytes, 1 shorts, 2 ints)");
        WhichDay x = new WhichDay();
        for (int sort = 0; sort < 3; sort++) {
            due("a row of sort " + sort, 0, x.row(sort, sort, 1));
            x.put(sort, 0, 0x12345678);
        }
        due("a byte", 0x78, x.element(0, 0));
        due("a short", 0x5678, x.element(1, 0));
        due("an int", 0x12345678, x.element(2, 0));
        refusedFor(SOME, "row", -1, (w, sort) -> w.row(3, sort, 4), -1, 3, MIN, MAX);
    }

    private static void lowestBits() {
        says("what is put in keeps its lowest bits");
        int[][] rows = {{BYTES, 127, 127}, {BYTES, 128, -128}, {BYTES, 129, -127}, {BYTES, -128, -128}, {BYTES, -129, 127}, {BYTES, 255, -1},
            {BYTES, 256, 0}, {BYTES, MAX, -1}, {BYTES, MIN, 0}, {SHORTS, 32767, 32767}, {SHORTS, 32768, -32768}, {SHORTS, -32768, -32768},
            {SHORTS, -32769, 32767}, {SHORTS, 65535, -1}, {SHORTS, 65536, 0}, {SHORTS, MAX, -1}, {SHORTS, MIN, 0}, {INTS, MAX, MAX},
            {INTS, MIN, MIN}, {INTS, -1, -1}};
        for (int[] r : rows) {
            WhichDay x = new WhichDay();
            x.row(0, r[0], 1);
            due("put " + r[1], 0, x.put(0, 0, r[1]));
            due(r[1] + " in sort " + r[0], r[2], x.element(0, 0));
        }
    }
}
