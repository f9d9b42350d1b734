/**
 * Which day it is for a traveller. The document (../shared/DOC.md) says, as
 * numbered promises, what each call answers; its words are used here as names.
 */
public final class WhichDay {
    private static final int LAST_MINUTE = 19999;
    /** Stands for "at no minute": it is behind all of them, so that the nearer of two can be taken. */
    private static final int NEVER = LAST_MINUTE + 1;
    private static final int MINUTES_A_DAY = 1440;
    private static final int DEGREES_ROUND = 360;
    private static final int MINUTES_A_DEGREE = 4;
    private static final int HALF_A_DAY = 720;
    private static final int QUARTER_OF_A_DAY = 360;

    private static final int MOST_PLACES = 10;
    private static final int MOST_TRAVELLERS = 8;
    private static final int MOST_LEGS = 6;
    private static final int MOST_CHANGES = 8;
    private static final int MOST_SHELVES = 8;
    private static final int MOST_ELEMENTS = 100;
    private static final int MOST_HOURS = 200;
    private static final int MOST_STAY = 30;
    private static final int MOST_TRADE = 99;
    private static final int MOST_DUTY_DAYS = 10;
    private static final int MOST_STEP = 9999;
    private static final int FIRST_LINE = 180;
    private static final int LINE_STEP = 15;
    private static final int LAST_SHIFT = 3;
    /** Halvings that bring any span of minutes down to one. */
    private static final int HALVINGS = 16;

    private static final int SUNSET = 1;
    private static final int DAWN = 2;

    private static final int OWN = 1;
    private static final int PLACE = 2;
    private static final int HOME = 3;
    private static final int SHIP = 4;
    private static final int TURN = 5;
    private static final int SETTLED = 6;
    private static final int STRICT = 7;

    private static final int BYTES = 0;
    private static final int SHORTS = 1;
    private static final int INTS = 2;

    private static final int NO_SUCH = -1;
    private static final int NO_ROOM = -2;
    private static final int NOT_AS_THINGS_STAND = -3;
    private static final int NONE = -4;
    private static final int NOTHING_HELD = -11;
    private static final int OTHER_KIND = -12;
    private static final int NO_SUCH_ELEMENT = -13;
    private static final int SIZE_BELOW_0 = -14;
    private static final int NO_FAILURE = -15;
    /** The refusal where answers may be below 0, and that of longs. */
    private static final int NO_SUCH_OF_INTS = -1000000001;
    private static final long NO_SUCH_OF_LONGS = -4000000000000000001L;

    private final World now = new World();
    private final World then = new World();
    private boolean imageTaken = false;
    private final Shelf[] shelves = new Shelf[MOST_SHELVES];
    /** Used again by every look at a traveller, so that no call has to make one. */
    private final Spot spot = new Spot();
    private final Reader reader = new Reader();

    public WhichDay() {
        for (int d = 0; d < MOST_SHELVES; d++) {
            shelves[d] = new Shelf();
        }
    }

    // ---- worlds

    public int world(int d) {
        Shelf shelf = shelfOf(d);
        if (shelf == null) {
            return NO_SUCH;
        }
        int refusal = refusalOfSort(shelf, BYTES);
        if (refusal != 0) {
            return refusal;
        }
        reader.open(shelf);
        int statements = readForm();
        if (statements < 0) {
            return statements;
        }
        int fault = readSense(statements);
        if (fault < 0) {
            return fault;
        }
        makeAll(statements);
        return statements;
    }

    public int place(int place, int what) {
        if (!now.hasPlace(place)) {
            return NO_SUCH_OF_INTS;
        }
        switch (what) {
            case 0:
                return now.degrees[place];
            case 1:
                return now.rules[place];
            case 2:
                return now.choices[place];
            case 3:
                return now.people[place];
            default:
                return NO_SUCH_OF_INTS;
        }
    }

    public int trade(int a, int b) {
        if (!now.hasPlace(a) || !now.hasPlace(b) || a == b) {
            return NO_SUCH;
        }
        return now.trades[a * MOST_PLACES + b];
    }

    public int choose(int place, int n) {
        if (!now.hasPlace(place) || n < -1 || n > 1) {
            return NO_SUCH_OF_INTS;
        }
        int before = now.choices[place];
        now.choices[place] = n;
        return before;
    }

    public int line(int degree) {
        if (!isDegree(degree)) {
            return NO_SUCH;
        }
        int before = now.lineAt;
        now.lineAt = degree;
        return before;
    }

    public int dayOf(int place, int t) {
        if (!now.hasPlace(place) || !isMinute(t)) {
            return NO_SUCH_OF_INTS;
        }
        return now.dayIn(place, t, now.lineAt);
    }

    public int hourOf(int place, int t) {
        if (!now.hasPlace(place) || !isMinute(t)) {
            return NO_SUCH;
        }
        return Math.floorMod(World.sunMinutes(now.degrees[place], t, now.lineAt), MINUTES_A_DAY);
    }

    // ---- travellers

    public int traveller(int kind, int home, int stay) {
        if (!isKind(kind) || !now.hasPlace(home) || stay < 0 || stay > MOST_STAY) {
            return NO_SUCH;
        }
        if (now.travellers >= MOST_TRAVELLERS) {
            return NO_ROOM;
        }
        Traveller who = new Traveller();
        who.number = now.travellers;
        who.kind = kind;
        who.home = home;
        who.stay = stay;
        now.crowd[now.travellers] = who;
        now.travellers++;
        return who.number;
    }

    public int leg(int traveller, int to, boolean east, int from, int hours) {
        Traveller who = now.travellerOf(traveller);
        if (who == null || !now.hasPlace(to) || !isMinute(from) || hours < 1 || hours > MOST_HOURS) {
            return NO_SUCH;
        }
        if (who.legs >= MOST_LEGS) {
            return NO_ROOM;
        }
        if (from < who.lastEnd()) {
            return NOT_AS_THINGS_STAND;
        }
        who.addLeg(to, east, from, hours * 60);
        return who.legs;
    }

    public int captain(int traveller, int t, int by) {
        Traveller who = now.travellerOf(traveller);
        if (who == null || !isMinute(t) || (by != 1 && by != -1)) {
            return NO_SUCH;
        }
        if (who.changes >= MOST_CHANGES) {
            return NO_ROOM;
        }
        if (who.kind != SHIP) {
            return NOT_AS_THINGS_STAND;
        }
        who.changeAt[who.changes] = t;
        who.changeBy[who.changes] = by;
        who.changes++;
        return who.changes;
    }

    public long where(int traveller, int t, int part) {
        Traveller who = now.travellerOf(traveller);
        if (who == null || !isMinute(t) || part < 0 || part > 1) {
            return NO_SUCH_OF_LONGS;
        }
        now.locate(who, who.eastward, t, spot);
        long below = spot.below;
        long above = Math.floorMod(now.degreeOf(who.home) * below + spot.gone, DEGREES_ROUND * below);
        long common = commonDivisor(above, below);
        return (part == 0 ? above : below) / common;
    }

    public int in(int traveller, int t) {
        Traveller who = now.travellerOf(traveller);
        if (who == null || !isMinute(t)) {
            return NO_SUCH;
        }
        now.locate(who, who.eastward, t, spot);
        return spot.isUnderWay() ? NONE : spot.place;
    }

    public int day(int traveller, int t) {
        Traveller who = now.travellerOf(traveller);
        if (who == null || !isMinute(t)) {
            return NO_SUCH_OF_INTS;
        }
        return dayTold(who, who.kind, t);
    }

    public int dayBy(int traveller, int kind, int t) {
        Traveller who = now.travellerOf(traveller);
        if (who == null || !isKind(kind) || !isMinute(t)) {
            return NO_SUCH_OF_INTS;
        }
        return dayTold(who, kind, t);
    }

    public int gain(int traveller, int kind, int t) {
        Traveller who = now.travellerOf(traveller);
        if (who == null || !isKind(kind) || !isMinute(t)) {
            return NO_SUCH_OF_INTS;
        }
        return dayTold(who, kind, t) - dayTold(who, HOME, t);
    }

    // ---- days

    public int begins(int traveller, int t) {
        Traveller who = now.travellerOf(traveller);
        if (who == null || !isMinute(t)) {
            return NO_SUCH;
        }
        return minuteOrNone(nextChange(who, who.kind, t));
    }

    public int longDay(int traveller, int t) {
        Traveller who = now.travellerOf(traveller);
        if (who == null || !isMinute(t)) {
            return NO_SUCH;
        }
        int begun = 0;
        int next = nextChange(who, who.kind, begun);
        for (int i = 0; i <= LAST_MINUTE && next <= t; i++) {
            begun = next;
            next = nextChange(who, who.kind, begun);
        }
        return next > LAST_MINUTE ? NONE : next - begun;
    }

    public int often(int traveller, int day, int t) {
        Traveller who = now.travellerOf(traveller);
        if (who == null || !isMinute(t)) {
            return NO_SUCH;
        }
        int spells = 0;
        int at = 0;
        for (int i = 0; i <= LAST_MINUTE && at <= t; i++) {
            if (dayTold(who, who.kind, at) == day) {
                spells++;
            }
            at = nextChange(who, who.kind, at);
        }
        return spells;
    }

    public int duty(int traveller, int t, int n) {
        Traveller who = now.travellerOf(traveller);
        if (who == null || !isMinute(t) || n < 0 || n > MOST_DUTY_DAYS) {
            return NO_SUCH;
        }
        int due = dayTold(who, who.kind, t) + n;
        int at = t;
        for (int i = 0; i <= LAST_MINUTE && at <= LAST_MINUTE; i++) {
            if (dayTold(who, who.kind, at) >= due) {
                return at;
            }
            at = nextChange(who, who.kind, at);
        }
        return NONE;
    }

    public int differ(int a, int b, int t) {
        Traveller one = now.travellerOf(a);
        Traveller other = now.travellerOf(b);
        if (one == null || other == null || !isMinute(t)) {
            return NO_SUCH_OF_INTS;
        }
        return dayTold(one, one.kind, t) - dayTold(other, other.kind, t);
    }

    public int agree(int a, int b, int t) {
        Traveller one = now.travellerOf(a);
        Traveller other = now.travellerOf(b);
        if (one == null || other == null || !isMinute(t)) {
            return NO_SUCH;
        }
        int at = t;
        for (int i = 0; i <= LAST_MINUTE && at <= LAST_MINUTE; i++) {
            if (dayTold(one, one.kind, at) == dayTold(other, other.kind, at)) {
                return at;
            }
            at = Math.min(nextChange(one, one.kind, at), nextChange(other, other.kind, at));
        }
        return NONE;
    }

    public int part(int traveller, int one, int other, int t) {
        Traveller who = now.travellerOf(traveller);
        if (who == null || !isKind(one) || !isKind(other) || one == other || !isMinute(t)) {
            return NO_SUCH;
        }
        int at = t;
        for (int i = 0; i <= LAST_MINUTE && at <= LAST_MINUTE; i++) {
            if (dayTold(who, one, at) != dayTold(who, other, at)) {
                return at;
            }
            at = Math.min(nextChange(who, one, at), nextChange(who, other, at));
        }
        return NONE;
    }

    // ---- lines

    public int wrong(int degree, int t) {
        if (!isDegree(degree) || !isMinute(t)) {
            return NO_SUCH;
        }
        return now.wrongWith(degree, t);
    }

    public int bestLine(int t, int what) {
        if (!isMinute(t) || what < 0 || what > 1) {
            return NO_SUCH;
        }
        int best = 0;
        int least = now.wrongWith(0, t);
        for (int degree = LINE_STEP; degree < DEGREES_ROUND; degree += LINE_STEP) {
            int wrongThere = now.wrongWith(degree, t);
            if (wrongThere < least) {
                best = degree;
                least = wrongThere;
            }
        }
        return what == 0 ? best : least;
    }

    public int moved(int degree, int t) {
        if (!isDegree(degree) || !isMinute(t)) {
            return NO_SUCH;
        }
        int bits = 0;
        for (int p = 0; p < now.places; p++) {
            if (now.dayIn(p, t, degree) != now.dayIn(p, t, now.lineAt)) {
                bits |= 1 << p;
            }
        }
        return bits;
    }

    // ---- told days, duties

    public int judge(int traveller, int d, int t, int n) {
        Traveller who = now.travellerOf(traveller);
        Shelf shelf = shelfOf(d);
        if (who == null || shelf == null || !isMinute(t) || n < 1 || n > MOST_STEP) {
            return NO_SUCH;
        }
        if (!shelf.hasRow) {
            return refusalOfRow(shelf);
        }
        if (shelf.size > 0 && !isMinute(t + (shelf.size - 1) * n)) {
            return NO_SUCH;
        }
        int untold = shelf.leastNumber();
        for (int i = 0; i < shelf.size; i++) {
            int told = shelf.elements[i];
            if (told != untold && told != dayTold(who, who.kind, t + i * n)) {
                return i;
            }
        }
        return NONE;
    }

    public int kept(int traveller, int d, int rest) {
        Traveller who = now.travellerOf(traveller);
        Shelf shelf = shelfOf(d);
        if (who == null || shelf == null || !isRestDay(rest)) {
            return NO_SUCH;
        }
        int refusal = refusalOfDuties(shelf);
        if (refusal != 0) {
            return refusal;
        }
        return firstBroken(who, who.eastward, shelf, rest);
    }

    public int rounds(int traveller, int t) {
        Traveller who = now.travellerOf(traveller);
        if (who == null || !isMinute(t)) {
            return NO_SUCH_OF_INTS;
        }
        return roundsAt(who, t);
    }

    public int log(int traveller, int d) {
        Traveller who = now.travellerOf(traveller);
        Shelf shelf = shelfOf(d);
        if (who == null || shelf == null) {
            return NO_SUCH;
        }
        if (!shelf.hasRow) {
            return refusalOfRow(shelf);
        }
        if (!isLog(shelf)) {
            return NO_SUCH_ELEMENT;
        }
        int shifts = (1 << (2 * LAST_SHIFT + 1)) - 1;
        for (int i = 0; i + 1 < shelf.size; i += 2) {
            if (shelf.tellsPair(i)) {
                shifts &= shiftOf(who, shelf.elements[i], shelf.elements[i + 1]);
            }
        }
        return shifts;
    }

    public int plan(int traveller, int d, int rest) {
        Traveller who = now.travellerOf(traveller);
        Shelf shelf = shelfOf(d);
        if (who == null || shelf == null || !isRestDay(rest)) {
            return NO_SUCH;
        }
        int refusal = refusalOfDuties(shelf);
        if (refusal != 0) {
            return refusal;
        }
        return leastPlan(who, shelf, rest);
    }

    // ---- the image, what is told

    public int image() {
        then.takeWorld(now);
        then.takeTravellers(now, false);
        imageTaken = true;
        return then.travellers;
    }

    public int restore() {
        if (!imageTaken) {
            return NOT_AS_THINGS_STAND;
        }
        now.takeWorld(then);
        now.takeTravellers(then, true);
        return now.travellers;
    }

    public int count(int what) {
        switch (what) {
            case 0:
                return now.places;
            case 1:
                return now.travellers;
            case 2:
                return now.allLegs();
            case 3:
                return now.lineAt;
            case 4:
                return now.allPeople();
            case 5:
                return now.tradingPairs();
            default:
                return NO_SUCH;
        }
    }

    // ---- shelves

    public int keep(int d, int what, int k) {
        Shelf shelf = shelfOf(d);
        if (shelf == null) {
            return NO_SUCH;
        }
        if (what == 0) {
            shelf.hold(null);
            return 0;
        }
        Traveller who = now.travellerOf(k);
        if (what != 1 || who == null) {
            return NO_SUCH;
        }
        shelf.hold(who);
        return 0;
    }

    public int row(int d, int sort, int n) {
        Shelf shelf = shelfOf(d);
        if (shelf == null || sort < BYTES || sort > INTS || n > MOST_ELEMENTS) {
            return NO_SUCH;
        }
        if (n < 0) {
            return SIZE_BELOW_0;
        }
        shelf.holdRow(sort, n);
        return 0;
    }

    public int put(int d, int i, int v) {
        Shelf shelf = shelfOf(d);
        if (shelf == null) {
            return NO_SUCH;
        }
        if (!shelf.hasRow) {
            return refusalOfRow(shelf);
        }
        if (!shelf.hasElement(i)) {
            return NO_SUCH_ELEMENT;
        }
        shelf.elements[i] = shelf.lowestBits(v);
        return 0;
    }

    public long element(int d, int i) throws IllegalArgumentException, IllegalStateException {
        Shelf shelf = shelfOf(d);
        if (shelf == null) {
            throw new IllegalArgumentException("no such shelf");
        }
        if (!shelf.hasElement(i)) {
            throw new IllegalStateException("no row, or no such place in it");
        }
        return shelf.elements[i];
    }

    public int copy(int d, int i, int e, int j, int n) {
        Shelf source = shelfOf(d);
        Shelf target = shelfOf(e);
        if (source == null || target == null) {
            return NO_SUCH;
        }
        if (source.isEmpty() || target.isEmpty()) {
            return NOTHING_HELD;
        }
        if (!source.hasRow || !target.hasRow || source.sort != target.sort) {
            return OTHER_KIND;
        }
        if (!source.hasSpan(i, n) || !target.hasSpan(j, n)) {
            return NO_SUCH_ELEMENT;
        }
        System.arraycopy(source.elements, i, target.elements, j, n);
        return n;
    }

    public int weight(int d) {
        Shelf shelf = shelfOf(d);
        if (shelf == null) {
            return NO_SUCH;
        }
        if (shelf.who == null) {
            return refusalOfTraveller(shelf);
        }
        return shelf.who.weightBy(shelf.who.kind);
    }

    public int toss(int d) {
        Shelf shelf = shelfOf(d);
        if (shelf == null) {
            return NO_SUCH;
        }
        Traveller who = shelf.who;
        if (who == null) {
            return refusalOfTraveller(shelf);
        }
        try {
            throwFailure(who);
        } catch (UnsupportedOperationException failure) {
            return who.number;
        } catch (IllegalStateException failure) {
            return 100 + who.number;
        } catch (IllegalArgumentException failure) {
            return 200 + who.stay;
        }
        return NO_FAILURE;
    }

    // ---- what the calls above use

    private static boolean isMinute(int t) {
        return t >= 0 && t <= LAST_MINUTE;
    }

    private static boolean isDegree(int degree) {
        return degree >= 0 && degree < DEGREES_ROUND;
    }

    private static boolean isKind(int kind) {
        return kind >= 0 && kind <= STRICT;
    }

    private static boolean isRestDay(int rest) {
        return rest >= 0 && rest <= 6;
    }

    private static int minuteOrNone(int minute) {
        return minute > LAST_MINUTE ? NONE : minute;
    }

    private static long commonDivisor(long above, long below) {
        long a = below;
        long b = above;
        for (int i = 0; i < 100 && b != 0; i++) {
            long rest = a % b;
            a = b;
            b = rest;
        }
        return a == 0 ? 1 : a;
    }

    private Shelf shelfOf(int d) {
        return d >= 0 && d < MOST_SHELVES ? shelves[d] : null;
    }

    /** Why a shelf has no row to be used: 0 if it has one. */
    private static int refusalOfRow(Shelf shelf) {
        if (shelf.hasRow) {
            return 0;
        }
        return shelf.isEmpty() ? NOTHING_HELD : OTHER_KIND;
    }

    private static int refusalOfSort(Shelf shelf, int sort) {
        if (shelf.hasRow && shelf.sort != sort) {
            return OTHER_KIND;
        }
        return refusalOfRow(shelf);
    }

    private static int refusalOfTraveller(Shelf shelf) {
        return shelf.isEmpty() ? NOTHING_HELD : OTHER_KIND;
    }

    private static int refusalOfDuties(Shelf shelf) {
        int refusal = refusalOfSort(shelf, INTS);
        if (refusal != 0) {
            return refusal;
        }
        for (int i = 0; i < shelf.size; i++) {
            if (!isMinute(shelf.elements[i])) {
                return NO_SUCH_ELEMENT;
            }
        }
        return 0;
    }

    private static boolean isLog(Shelf shelf) {
        if (shelf.size % 2 != 0) {
            return false;
        }
        for (int i = 0; i + 1 < shelf.size; i += 2) {
            if (shelf.tellsPair(i) && !isMinute(shelf.elements[i])) {
                return false;
            }
        }
        return true;
    }

    /** The one shift, as a bit, that explains a day written at a minute; no bit if none does. */
    private int shiftOf(Traveller who, int t, int written) {
        // a long, since what is written may be any int
        long shift = (long) dayTold(who, OWN, t) - written;
        if (shift < -LAST_SHIFT || shift > LAST_SHIFT) {
            return 0;
        }
        return 1 << (int) (shift + LAST_SHIFT);
    }

    /** Each sort of failure has a class of its own, by which toss() tells them apart. */
    private static void throwFailure(Traveller who) {
        if (who.legs == 0) {
            return;
        }
        switch (who.kind) {
            case HOME:
            case STRICT:
                return;
            case SHIP:
                throw new IllegalStateException("a ship's failure");
            case SETTLED:
                throw new IllegalArgumentException("a settled one's failure");
            default:
                throw new UnsupportedOperationException("a traveller's failure");
        }
    }

    private int readForm() {
        reader.rewind();
        for (int statements = 1; statements <= MOST_ELEMENTS; statements++) {
            if (!reader.readStatement()) {
                return -1000 - reader.at;
            }
            if (reader.isAtEnd()) {
                return statements;
            }
        }
        return -1000 - reader.at;
    }

    /** Needs no more than the number of places so far, so nothing is made before all is known to be well. */
    private int readSense(int statements) {
        reader.rewind();
        int places = now.places;
        for (int i = 0; i < statements; i++) {
            if (!reader.readStatement() || !reader.makesSense(places)) {
                return -2000 - reader.letterAt;
            }
            if (reader.letter == 'p') {
                places++;
            }
        }
        return 0;
    }

    private void makeAll(int statements) {
        reader.rewind();
        for (int i = 0; i < statements; i++) {
            reader.readStatement();
            if (reader.letter == 'p') {
                now.addPlace(reader.first, reader.second, reader.third, reader.choice);
            } else if (reader.letter == 'l') {
                now.lineAt = reader.first;
            } else {
                now.setTrade(reader.first, reader.second, reader.third);
            }
        }
    }

    private int roundsAt(Traveller who, int t) {
        now.locate(who, who.eastward, t, spot);
        return spot.roundsDone();
    }

    private int dayTold(Traveller who, int kind, int t) {
        now.locate(who, who.eastward, t, spot);
        switch (kind) {
            case OWN:
                return spot.daysSeen(t);
            case PLACE:
                return spot.isUnderWay() ? spot.dayByMidnight(t) : now.dayIn(spot.place, t, now.lineAt);
            case HOME:
                return now.dayIn(who.home, t, now.lineAt);
            case SHIP:
                return spot.daysSeen(t) + who.changedTill(t);
            case TURN:
                return spot.daysSeen(t) - spot.roundsDone();
            case SETTLED:
                return now.dayIn(who.isSettled(spot, t) ? spot.place : who.home, t, now.lineAt);
            case STRICT:
                return now.dayIn(who.home, t, now.lineAt) + (spot.isUnderWay() ? 1 : 0);
            default:
                return spot.dayByMidnight(t);
        }
    }

    /** The first minute above t at which the day is another one; NEVER if there is none. */
    private int nextChange(Traveller who, int kind, int t) {
        int day = dayTold(who, kind, t);
        int at = t;
        for (int i = 0; i <= LAST_MINUTE && at <= LAST_MINUTE; i++) {
            int till = evenTill(who, at);
            if (dayTold(who, kind, till) != day) {
                return firstOther(who, kind, at, till);
            }
            at = till + 1;
            if (at <= LAST_MINUTE && dayTold(who, kind, at) != day) {
                return at;
            }
        }
        return NEVER;
    }

    /**
     * The last minute up to which nothing happens but even motion: no leg
     * begins or ends, the line isn't passed, the captain tells nothing, nobody
     * settles. On such a stretch a day by any kind only rises or only falls,
     * so the minute of its change may be found by halving.
     */
    private int evenTill(Traveller who, int t) {
        int till = who.nextEvent(t) - 1;
        int rounds = roundsAt(who, t);
        if (roundsAt(who, till) == rounds) {
            return till;
        }
        int same = t;
        int other = till;
        for (int i = 0; i < HALVINGS && other - same > 1; i++) {
            int middle = (same + other) / 2;
            if (roundsAt(who, middle) == rounds) {
                same = middle;
            } else {
                other = middle;
            }
        }
        return same;
    }

    /** On an even stretch whose ends have unlike days: the first minute with another day than its first. */
    private int firstOther(Traveller who, int kind, int start, int end) {
        int day = dayTold(who, kind, start);
        int same = start;
        int other = end;
        for (int i = 0; i < HALVINGS && other - same > 1; i++) {
            int middle = (same + other) / 2;
            if (dayTold(who, kind, middle) == day) {
                same = middle;
            } else {
                other = middle;
            }
        }
        return other;
    }

    /** The first duty that is broken if the legs go as the bits say; spot is left at it. */
    private int firstBroken(Traveller who, int eastward, Shelf duties, int rest) {
        for (int i = 0; i < duties.size; i++) {
            int t = duties.elements[i];
            now.locate(who, eastward, t, spot);
            if (spot.isUnderWay() && Math.floorMod(spot.dayByMidnight(t), 7) == rest) {
                return i;
            }
        }
        return NONE;
    }

    /**
     * Where one is on a leg (but for whole rounds) hangs on that leg's own
     * direction alone, so a duty broken there forbids this direction whatever
     * the other legs do: from all WEST on, only what must be is turned EAST.
     */
    private int leastPlan(Traveller who, Shelf duties, int rest) {
        int eastward = 0;
        for (int i = 0; i <= MOST_LEGS; i++) {
            if (firstBroken(who, eastward, duties, rest) < 0) {
                return eastward;
            }
            int bit = 1 << spot.leg;
            if ((eastward & bit) != 0) {
                return NONE;
            }
            eastward |= bit;
        }
        return NONE;
    }

    /** Places, the line, trades and travellers: all that an image holds. */
    private static final class World {
        int places = 0;
        int travellers = 0;
        int lineAt = FIRST_LINE;
        final int[] degrees = new int[MOST_PLACES];
        final int[] rules = new int[MOST_PLACES];
        final int[] choices = new int[MOST_PLACES];
        final int[] people = new int[MOST_PLACES];
        final int[] trades = new int[MOST_PLACES * MOST_PLACES];
        final Traveller[] crowd = new Traveller[MOST_TRAVELLERS];

        boolean hasPlace(int p) {
            return p >= 0 && p < places;
        }

        Traveller travellerOf(int k) {
            return k >= 0 && k < travellers ? crowd[k] : null;
        }

        int degreeOf(int p) {
            return p >= 0 && p < places ? degrees[p] : 0;
        }

        void addPlace(int degree, int rule, int inhabitants, int choice) {
            if (places >= MOST_PLACES) {
                return;
            }
            degrees[places] = degree;
            rules[places] = rule;
            people[places] = inhabitants;
            choices[places] = choice;
            places++;
        }

        void setTrade(int a, int b, int howMuch) {
            if (hasPlace(a) && hasPlace(b)) {
                trades[a * MOST_PLACES + b] = howMuch;
                trades[b * MOST_PLACES + a] = howMuch;
            }
        }

        /** Minutes from the midnight of a degree at which its day 0 begins, with the line told. */
        static int sunMinutes(int degree, int t, int withLine) {
            int east = Math.floorMod(degree - withLine, DEGREES_ROUND);
            return t + MINUTES_A_DEGREE * east - HALF_A_DAY;
        }

        int dayIn(int p, int t, int withLine) {
            if (!hasPlace(p)) {
                return 0;
            }
            int minutes = sunMinutes(degrees[p], t, withLine);
            if (rules[p] == SUNSET) {
                minutes += QUARTER_OF_A_DAY;
            } else if (rules[p] == DAWN) {
                minutes -= QUARTER_OF_A_DAY;
            }
            return Math.floorDiv(minutes, MINUTES_A_DAY) + choices[p];
        }

        int wrongWith(int withLine, int t) {
            int sum = 0;
            for (int a = 0; a < places; a++) {
                int dayThere = dayIn(a, t, withLine);
                for (int b = a + 1; b < places; b++) {
                    int howMuch = trades[a * MOST_PLACES + b];
                    if (howMuch > 0 && dayThere != dayIn(b, t, withLine)) {
                        sum += howMuch * (people[a] + people[b]);
                    }
                }
            }
            return sum;
        }

        /** Where a traveller is at t if its legs go eastward as the bits say. */
        void locate(Traveller who, int eastward, int t, Spot spot) {
            int at = who.home;
            int gone = 0;
            int homeEast = Math.floorMod(degreeOf(at) - lineAt, DEGREES_ROUND);
            spot.came = 0;
            for (int k = 0; k < who.legs && t > who.from[k]; k++) {
                int way = degreesOf(at, who.to[k], (eastward >> k & 1) != 0);
                if (t < who.end[k]) {
                    spot.setUnderWay(k, who.end[k] - who.from[k]);
                    spot.gone = (long) gone * spot.below + (long) way * (t - who.from[k]);
                    spot.east = homeEast * spot.below + spot.gone;
                    return;
                }
                gone += way;
                at = who.to[k];
                spot.came = who.end[k];
            }
            spot.setIn(at);
            spot.gone = gone;
            spot.east = homeEast + gone;
        }

        int degreesOf(int from, int to, boolean isEast) {
            int eastward = degreeOf(to) - degreeOf(from);
            return isEast ? Math.floorMod(eastward, DEGREES_ROUND) : -Math.floorMod(-eastward, DEGREES_ROUND);
        }

        int allLegs() {
            int sum = 0;
            for (int k = 0; k < travellers; k++) {
                Traveller who = crowd[k];
                sum += who == null ? 0 : who.legs;
            }
            return sum;
        }

        int allPeople() {
            int sum = 0;
            for (int p = 0; p < places; p++) {
                sum += people[p];
            }
            return sum;
        }

        int tradingPairs() {
            int pairs = 0;
            for (int a = 0; a < places; a++) {
                for (int b = a + 1; b < places; b++) {
                    if (trades[a * MOST_PLACES + b] > 0) {
                        pairs++;
                    }
                }
            }
            return pairs;
        }

        void takeWorld(World other) {
            places = other.places;
            lineAt = other.lineAt;
            System.arraycopy(other.degrees, 0, degrees, 0, MOST_PLACES);
            System.arraycopy(other.rules, 0, rules, 0, MOST_PLACES);
            System.arraycopy(other.choices, 0, choices, 0, MOST_PLACES);
            System.arraycopy(other.people, 0, people, 0, MOST_PLACES);
            System.arraycopy(other.trades, 0, trades, 0, MOST_PLACES * MOST_PLACES);
        }

        /**
         * New ones are wanted where a shelf may hold those that are here, which
         * must stay as they are; an image's own are never on a shelf.
         */
        void takeTravellers(World other, boolean anew) {
            travellers = other.travellers;
            for (int k = 0; k < travellers; k++) {
                Traveller theirs = other.crowd[k];
                Traveller mine = crowd[k];
                if (anew || mine == null) {
                    mine = new Traveller();
                    crowd[k] = mine;
                }
                if (theirs != null) {
                    mine.take(theirs);
                }
            }
        }
    }

    /** A traveller as it was told: nothing in it hangs on the world or on a minute. */
    private static final class Traveller {
        int number = 0;
        int kind = 0;
        int home = 0;
        int stay = 0;
        int legs = 0;
        /** Bit k: leg k goes east. */
        int eastward = 0;
        final int[] to = new int[MOST_LEGS];
        final int[] from = new int[MOST_LEGS];
        final int[] end = new int[MOST_LEGS];
        int changes = 0;
        final int[] changeAt = new int[MOST_CHANGES];
        final int[] changeBy = new int[MOST_CHANGES];

        int lastEnd() {
            return legs > 0 && legs <= MOST_LEGS ? end[legs - 1] : 0;
        }

        void addLeg(int place, boolean isEast, int start, int minutes) {
            if (legs >= MOST_LEGS) {
                return;
            }
            to[legs] = place;
            from[legs] = start;
            end[legs] = start + minutes;
            if (isEast) {
                eastward |= 1 << legs;
            }
            legs++;
        }

        int changedTill(int t) {
            int sum = 0;
            for (int c = 0; c < changes; c++) {
                if (changeAt[c] <= t) {
                    sum += changeBy[c];
                }
            }
            return sum;
        }

        boolean isSettled(Spot spot, int t) {
            return !spot.isUnderWay() && spot.place != home && t >= spot.came + stay * MINUTES_A_DAY;
        }

        /** The first minute above t at which a leg has begun or ends, one settles or the captain tells a change. */
        int nextEvent(int t) {
            int next = NEVER;
            for (int k = 0; k < legs; k++) {
                next = nearer(next, from[k] + 1, t);
                next = nearer(next, end[k], t);
                next = nearer(next, end[k] + stay * MINUTES_A_DAY, t);
            }
            for (int c = 0; c < changes; c++) {
                next = nearer(next, changeAt[c], t);
            }
            return next;
        }

        static int nearer(int next, int event, int t) {
            return event > t && event < next ? event : next;
        }

        int weightBy(int asKind) {
            int plain = 10 + legs;
            switch (asKind) {
                case OWN:
                    return plain + 1;
                case PLACE:
                    return 2 * plain;
                case HOME:
                    return plain + home;
                case SHIP:
                    return plain + 1 + changes;
                case TURN:
                    return 2 * (plain + 1);
                case SETTLED:
                    return 2 * plain + stay;
                case STRICT:
                    return plain + home + 100;
                default:
                    return plain;
            }
        }

        void take(Traveller other) {
            number = other.number;
            kind = other.kind;
            home = other.home;
            stay = other.stay;
            legs = other.legs;
            eastward = other.eastward;
            changes = other.changes;
            System.arraycopy(other.to, 0, to, 0, MOST_LEGS);
            System.arraycopy(other.from, 0, from, 0, MOST_LEGS);
            System.arraycopy(other.end, 0, end, 0, MOST_LEGS);
            System.arraycopy(other.changeAt, 0, changeAt, 0, MOST_CHANGES);
            System.arraycopy(other.changeBy, 0, changeBy, 0, MOST_CHANGES);
        }
    }

    /** Where a traveller is at a minute; its degrees are fractions with one number below the line. */
    private static final class Spot {
        /** NONE while under way. */
        int place = NONE;
        int leg = 0;
        int came = 0;
        long gone = 0;
        /** EAST of HOME and GONE: degrees from the line, whole rounds left in. */
        long east = 0;
        long below = 1;

        void setIn(int where) {
            place = where;
            below = 1;
        }

        void setUnderWay(int onLeg, int minutes) {
            place = NONE;
            leg = onLeg;
            below = minutes > 0 ? minutes : 1;
        }

        boolean isUnderWay() {
            return place == NONE;
        }

        int roundsDone() {
            return (int) Math.floorDiv(east, DEGREES_ROUND * below);
        }

        /** By 4 minutes a degree a round is a day, so the rounds done are days too many. */
        int dayByMidnight(int t) {
            return daysGone(t - HALF_A_DAY) - roundsDone();
        }

        int daysSeen(int t) {
            return daysGone(t - HALF_A_DAY + QUARTER_OF_A_DAY);
        }

        int daysGone(int minutes) {
            return (int) Math.floorDiv(minutes * below + MINUTES_A_DEGREE * east, MINUTES_A_DAY * below);
        }
    }

    /** Reads a world's statements from a row of bytes, one behind the other. */
    private static final class Reader {
        Shelf text = null;
        int at = 0;
        int letter = 0;
        int letterAt = 0;
        int first = 0;
        int second = 0;
        int third = 0;
        int choice = 0;
        int number = 0;

        void open(Shelf shelf) {
            text = shelf;
        }

        void rewind() {
            at = 0;
        }

        boolean isAtEnd() {
            return text == null || at >= text.size;
        }

        /** The byte that comes; one that no world has, if the text ends. */
        int next() {
            return text != null && text.hasElement(at) ? text.elements[at] : -1;
        }

        /** False leaves at where no world can go on. */
        boolean readStatement() {
            letterAt = at;
            letter = next();
            if (letter != 'p' && letter != 'l' && letter != 'w') {
                return false;
            }
            at++;
            if (!readNumber()) {
                return false;
            }
            first = number;
            if (letter != 'l' && !readTwoMore()) {
                return false;
            }
            readChoice();
            return pass(';');
        }

        boolean readTwoMore() {
            if (!pass(' ') || !readNumber()) {
                return false;
            }
            second = number;
            if (!pass(' ') || !readNumber()) {
                return false;
            }
            third = number;
            return true;
        }

        void readChoice() {
            choice = 0;
            if (letter != 'p') {
                return;
            }
            if (pass('+')) {
                choice = 1;
            } else if (pass('-')) {
                choice = -1;
            }
        }

        boolean readNumber() {
            if (!isDigit(next())) {
                return false;
            }
            number = next() - '0';
            at++;
            // behind a 0 no digit may follow: what comes next will stumble over it
            for (int digits = 1; digits < 3 && number != 0 && isDigit(next()); digits++) {
                number = 10 * number + next() - '0';
                at++;
            }
            return true;
        }

        boolean pass(int sign) {
            if (next() != sign) {
                return false;
            }
            at++;
            return true;
        }

        static boolean isDigit(int sign) {
            return sign >= '0' && sign <= '9';
        }

        boolean makesSense(int places) {
            if (letter == 'p') {
                return isDegree(first) && second <= DAWN && places < MOST_PLACES;
            }
            if (letter == 'l') {
                return isDegree(first);
            }
            return first < places && second < places && first != second && third <= MOST_TRADE;
        }
    }

    /** Holds nothing, a traveller, or a row; its elements are made once and used for every row. */
    private static final class Shelf {
        Traveller who = null;
        boolean hasRow = false;
        int sort = BYTES;
        int size = 0;
        final int[] elements = new int[MOST_ELEMENTS];

        boolean isEmpty() {
            return who == null && !hasRow;
        }

        void hold(Traveller traveller) {
            who = traveller;
            hasRow = false;
        }

        void holdRow(int ofSort, int n) {
            who = null;
            hasRow = true;
            sort = ofSort;
            size = n;
            for (int i = 0; i < MOST_ELEMENTS; i++) {
                elements[i] = 0;
            }
        }

        boolean hasElement(int i) {
            return hasRow && i >= 0 && i < size;
        }

        boolean hasSpan(int i, int n) {
            return hasRow && i >= 0 && n >= 0 && n <= size - i;
        }

        int lowestBits(int v) {
            if (sort == BYTES) {
                return (byte) v;
            }
            return sort == SHORTS ? (short) v : v;
        }

        int leastNumber() {
            if (sort == BYTES) {
                return -128;
            }
            return sort == SHORTS ? -32768 : -2147483648;
        }

        /** Whether the pair from i on tells something: a least number in it means it doesn't. */
        boolean tellsPair(int i) {
            int least = leastNumber();
            return hasElement(i) && hasElement(i + 1) && elements[i] != least && elements[i + 1] != least;
        }
    }
}
