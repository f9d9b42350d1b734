/**
 * The document's part 3, from BEGINS to PLAN: each sentence there that names a
 * boundary case has a test of its own, on the boundary, just inside it and just
 * outside it.
 */
public final class DaysTest extends Bench {
    public static void main(String[] args) {
        beginsAbove();
        beginsAtMost();
        beginsAnother();
        beginsOnTheWay();
        beginsAtTheLine();
        beginsOnALongLeg();
        beginsAsOneLeaves();
        beginsWithAllThatCanBe();
        beginsBySettling();
        longFromNoughtAtLeast();
        longFromTheLast();
        longNone();
        oftenSpells();
        oftenTill();
        oftenAnyInt();
        dutyFromOn();
        dutyOrAbove();
        dutyRange();
        dutyNone();
        differ();
        agreeFromOn();
        agreeNone();
        partFromOn();
        partNone();
        partTwoKinds();
        noneAt20000();
        gain();
        wrongEachOnce();
        wrongUnlike();
        wrongMost();
        bestLineDegrees();
        bestLineLeast();
        movedBits();
        judgeStep();
        judgeMinutes();
        judgeUntold();
        judgeFirst();
        judgeNone();
        keptModulo();
        keptFirst();
        keptUnderWay();
        keptMinutes();
        keptRest();
        logShifts();
        logLeftOut();
        logOdd();
        logMinutes();
        planLeast();
        planBits();
        planAllEast();
        planInMind();
        planNone();
        finish();
    }

    /** One whose day is t by 1440. */
    private static WhichDay plain(int kind) {
        return with("p0 0 9;p0 0 9+;p0 0 9-;", kind, 0, 0);
    }

    /** A SHIP whose captain told these changes, minute and by one behind the other; an OWN's day is t and 360 by 1440. */
    private static WhichDay ship(int... changes) {
        WhichDay x = plain(SHIP);
        for (int i = 0; i + 1 < changes.length; i += 2) x.captain(0, changes[i], changes[i + 1]);
        return x;
    }

    // ---- BEGINS

    private static void beginsAbove() {
        says("BEGINS: the first MINUTE above t");
        WhichDay x = plain(HOME);
        int[][] rows = {{0, 1440}, {1, 1440}, {1438, 1440}, {1439, 1440}, {1440, 2880}, {1441, 2880}};
        for (int[] r : rows) due("begins at " + r[0], r[1], x.begins(0, r[0]));
        WhichDay at1 = ship(1, 1);
        due("at 1 from 0", 1, at1.begins(0, 0));
        due("from 1 the next", 1080, at1.begins(0, 1));
        WhichDay at0 = ship(0, 1);
        due("a change at 0 is none above", 1080, at0.begins(0, 0));
    }

    private static void beginsAtMost() {
        says("BEGINS: (19999 at most); -4 none");
        WhichDay x = plain(HOME);
        due("the last one", 18720, x.begins(0, 18719));
        due("none", -4, x.begins(0, 18720));
        due("none", -4, x.begins(0, LAST));
        WhichDay last = ship(LAST, 1);
        due("the one ahead of it", 19800, last.begins(0, 19799));
        due("at the last minute", LAST, last.begins(0, 19800));
        due("at the last minute", LAST, last.begins(0, LAST - 1));
        due("none above it", -4, last.begins(0, LAST));
        WhichDay still = ship(LAST - 1, 1);
        due("a minute ahead", LAST - 1, still.begins(0, LAST - 2));
        due("none above it", -4, still.begins(0, LAST - 1));
        // days begin at 20000 - 1440 and would at 20000; a degree more east 4 minutes earlier
        WhichDay edge = with("p40 0 1;", HOME, 0, 0);
        due("the one ahead of it", 18560, edge.begins(0, 18559));
        due("one that would begin at 20000", -4, edge.begins(0, 18560));
        WhichDay inside = with("p41 0 1;", HOME, 0, 0);
        due("one that begins at 19996", 19996, inside.begins(0, 18556));
        due("none behind it", -4, inside.begins(0, 19996));
    }

    private static void beginsAnother() {
        says("BEGINS: .. at which a TRAVELLER's day is another one");
        due("two changes that do nothing together", 1080, ship(500, 1, 500, -1).begins(0, 0));
        due("a day less", 500, ship(500, -1).begins(0, 0));
        WhichDay back = ship(1080, -1);
        due("a change just as a day begins", 2520, back.begins(0, 0));
        due("two at once", 1080, ship(1080, 1).begins(0, 1079));
    }

    private static void beginsOnTheWay() {
        says("BEGINS: at the first MINUTE and at the end of a LEG");
        WhichDay strict = plain(STRICT);
        strict.leg(0, 0, true, 100, 1);
        strict.leg(0, 0, true, 160, 1);
        strict.leg(0, 0, true, LAST - 1, 1);
        int[][] rows = {{0, 101}, {99, 101}, {100, 101}, {101, 160}, {159, 160}, {160, 161}, {161, 220}, {219, 220}, {220, 1440},
            {18720, LAST}, {LAST - 1, LAST}, {LAST, -4}};
        for (int[] r : rows) due("a strict one's at " + r[0], r[1], strict.begins(0, r[0]));
        WhichDay stays = with("p0 0 1;", STRICT, 0, 1);
        stays.leg(0, 0, true, 100, 1);
        due("with a stay, which no strict one looks at", 160, stays.begins(0, 101));
        due("the same day once more", 1440, stays.begins(0, 160));
        WhichDay place = plain(PLACE);
        place.leg(0, 1, true, 100, 1);
        place.leg(0, 2, true, 500, 1);
        int[][] there = {{0, 160}, {159, 160}, {160, 501}, {500, 501}, {501, 560}, {560, 1440}};
        for (int[] r : there) due("by the place at " + r[0], r[1], place.begins(0, r[0]));
        // 90 degrees in 10 hours: 3/5 of a minute more each minute, 360 in all
        WhichDay count = with("p0 0 1;p90 0 1;", COUNT, 0, 0);
        count.leg(0, 1, true, 300, 10);
        due("eastward behind the leg", 1080, count.begins(0, 300));
        WhichDay fast = with("p0 0 1;p90 0 1;", COUNT, 0, 0);
        fast.leg(0, 1, true, 1000, 10);
        // from 1000: m and 3/5 m are 440 at 275
        due("eastward under way", 1275, fast.begins(0, 1000));
        due("the next behind it", 2520, fast.begins(0, 1275));
        WhichDay back = with("p0 0 1;p270 0 1;", COUNT, 0, 0);
        back.leg(0, 1, false, 1430, 1);
        // from 1430, 5 minutes back for each: 1440 is never met on the way; 360 minutes back at the end
        due("westward behind the leg", 1800, back.begins(0, 0));
    }

    private static void beginsAtTheLine() {
        says("BEGINS: a LINE passed on the way");
        WhichDay east = with("p179 0 1;p181 0 1;", TURN, 0, 0);
        east.leg(0, 1, true, 0, 1);
        int[][] rows = {{0, 30}, {29, 30}, {30, 356}, {31, 356}};
        for (int[] r : rows) due("eastward at " + r[0], r[1], east.begins(0, r[0]));
        WhichDay west = with("p181 0 1;p179 0 1;", TURN, 0, 0);
        west.leg(0, 1, false, 0, 1);
        int[][] back = {{0, 31}, {30, 31}, {31, 364}};
        for (int[] r : back) due("westward at " + r[0], r[1], west.begins(0, r[0]));
        due("day -1 up to the line and no more", 31, west.longDay(0, 30));
        // the line is passed twice: there and back
        WhichDay both = with("p179 0 1;p181 0 1;", TURN, 0, 0);
        both.leg(0, 1, true, 0, 1);
        both.leg(0, 0, false, 60, 1);
        int[][] turns = {{0, 30}, {30, 91}, {90, 91}, {91, 364}};
        for (int[] r : turns) due("there and back at " + r[0], r[1], both.begins(0, r[0]));
        due("day 0 twice", 2, both.often(0, 0, LAST));
        due("day -1 once", 1, both.often(0, -1, LAST));
    }

    private static void beginsOnALongLeg() {
        says("BEGINS: on one LEG days go on, back at the LINE, and on again");
        // 20 degrees in 12000 minutes, the line at 6000: a sunset at each 1440 minutes by 150/151
        WhichDay east = with("p170 0 1;p190 0 1;", TURN, 0, 0);
        east.leg(0, 1, true, 0, 200);
        int[][] rows = {{0, 398}, {398, 1828}, {3259, 4689}, {4688, 4689}, {4689, 6000}, {5999, 6000}, {6000, 6120}, {6120, 7550}};
        for (int[] r : rows) due("eastward at " + r[0], r[1], east.begins(0, r[0]));
        due("a day for the second time", 120, east.longDay(0, 6000));
        for (int day = 0; day < 8; day++) due("day " + day, day == 3 || day == 4 ? 2 : 1, east.often(0, day, 11999));
        due("a duty of a day from there", 7550, east.duty(0, 5000, 1));
        due("parted from its own", 6000, east.part(0, TURN, OWN, 0));
        WhichDay west = with("p190 0 1;p170 0 1;", TURN, 0, 0);
        west.leg(0, 1, false, 0, 200);
        int[][] back = {{0, 323}, {323, 1772}, {4671, 4672}, {4672, 6001}, {6000, 6001}, {6001, 6121}, {6120, 6121}};
        for (int[] r : back) due("westward at " + r[0], r[1], west.begins(0, r[0]));
        due("a short day", 120, west.longDay(0, 6120));
        due("a duty of a day from there", 6001, west.duty(0, 5000, 1));
        due("a duty of two days from there", 6121, west.duty(0, 5000, 2));
    }

    private static void beginsAsOneLeaves() {
        says("BEGINS: as one leaves a PLACE that chose, though the day is the same again ahead of the end");
        WhichDay settled = with("p0 0 1;p0 0 1+;", SETTLED, 0, 0);
        settled.leg(0, 1, true, 0, 1);
        settled.leg(0, 0, true, 5000, 24);
        int[][] rows = {{0, 60}, {60, 1440}, {4320, 5001}, {5000, 5001}, {5001, 5760}, {5760, 7200}};
        for (int[] r : rows) due("a settled one's at " + r[0], r[1], settled.begins(0, r[0]));
        due("day 4 twice", 2, settled.often(0, 4, LAST));
        WhichDay place = with("p0 0 1+;", PLACE, 0, 0);
        place.leg(0, 0, true, 1000, 24);
        int[][] there = {{0, 1001}, {1000, 1001}, {1001, 1440}, {1440, 2440}, {2440, 2880}};
        for (int[] r : there) due("by the place at " + r[0], r[1], place.begins(0, r[0]));
    }

    private static void beginsWithAllThatCanBe() {
        says("BEGINS and its like with six LEGS and eight changes");
        WhichDay x = full();
        // an OWN's: from 180 degrees east of the line 240 degrees eastward, so 960 minutes more; a change each 2000 minutes
        due("the last change", 14000, x.begins(0, 13999));
        due("the last day", 18840, x.begins(0, 18839));
        due("none behind it", -4, x.begins(0, 18840));
        due("its length", 18840 - 17400, x.longDay(0, 18839));
        due("the last day once", 1, x.often(0, 22, LAST));
        due("no day behind it", 0, x.often(0, 23, LAST));
        due("a duty", 14000, x.duty(0, 13999, 1));
        due("parted from its own", 0, x.part(0, SHIP, OWN, 0));
        due("with itself", LAST, x.agree(0, 0, LAST));
    }

    private static void beginsBySettling() {
        says("BEGINS: STAY times 1440 MINUTES behind the end of a LEG");
        WhichDay x = with("p0 0 1;p0 0 1+;p0 0 1-;", SETTLED, 0, 2);
        x.leg(0, 1, true, 40, 1);
        x.leg(0, 2, true, 5000, 1);
        int[][] rows = {{1440, 2880}, {2880, 2980}, {2979, 2980}, {2980, 4320}, {4320, 5001}, {5000, 5001}, {5001, 5760}, {7939, 7940},
            {7940, 8640}};
        for (int[] r : rows) due("settled, at " + r[0], r[1], x.begins(0, r[0]));
        due("a day for 100 minutes", 100, x.longDay(0, 2900));
        WhichDay last = with("p0 0 1;p0 0 1+;", SETTLED, 0, 13);
        last.leg(0, 1, true, 1219, 1);
        due("settled at the last minute", LAST, last.begins(0, LAST - 1));
        WhichDay never = with("p0 0 1;p0 0 1+;", SETTLED, 0, 13);
        never.leg(0, 1, true, 1220, 1);
        due("a minute too late", -4, never.begins(0, LAST - 1));
    }

    // ---- LONG

    private static void longFromNoughtAtLeast() {
        says("LONG: MINUTES from the last at which it became this day (0 at least) to BEGINS");
        WhichDay x = with("p180 0 1;", HOME, 0, 0);
        int[][] rows = {{0, 720}, {1, 720}, {719, 720}, {720, 1440}, {2159, 1440}, {2160, 1440}};
        for (int[] r : rows) due("long at " + r[0], r[1], x.longDay(0, r[0]));
        WhichDay at1 = ship(1, 1);
        due("a minute long", 1, at1.longDay(0, 0));
        due("the next", 1079, at1.longDay(0, 1));
    }

    private static void longFromTheLast() {
        says("LONG: from the last at which it became this day");
        WhichDay x = ship(200, 1, 300, -1, 400, 1, 401, -1);
        int[][] rows = {{0, 200}, {199, 200}, {200, 100}, {299, 100}, {300, 100}, {399, 100}, {400, 1}, {401, 679}, {1079, 679}, {1080, 1440}};
        for (int[] r : rows) due("long at " + r[0], r[1], x.longDay(0, r[0]));
        due("through a change that does nothing", 1080, ship(500, 1, 500, -1).longDay(0, 700));
    }

    private static void longNone() {
        says("LONG: .. -4 if that is none");
        WhichDay x = plain(HOME);
        due("the last day that ends", 1440, x.longDay(0, 18719));
        due("the one behind", -4, x.longDay(0, 18720));
        due("the last minute", -4, x.longDay(0, LAST));
        WhichDay last = ship(LAST, 1);
        due("till the last minute", LAST - 19800, last.longDay(0, LAST - 1));
        due("the last minute", -4, last.longDay(0, LAST));
    }

    // ---- HOW OFTEN

    private static void oftenSpells() {
        says("HOW OFTEN: how many separate spells of it");
        WhichDay x = ship(200, 1, 300, -1, 400, 1, 401, -1);
        due("day 0: three spells", 3, x.often(0, 0, LAST));
        due("day 1: two, and one of its own", 3, x.often(0, 1, LAST));
        due("day 2", 1, x.often(0, 2, LAST));
        WhichDay whole = ship(500, 1, 500, -1);
        due("no break", 1, whole.often(0, 0, LAST));
        due("a day that never was", 0, ship(500, 1, 500, 1).often(0, 1, LAST));
        due("a day that goes on by a change", 1, ship(1080, -1).often(0, 0, LAST));
    }

    private static void oftenTill() {
        says("HOW OFTEN .. in MINUTES 0 .. a told one");
        WhichDay x = ship(200, 1, 300, -1);
        int[][] rows = {{0, 0, 1}, {0, 199, 1}, {0, 299, 1}, {0, 300, 2}, {0, 301, 2}, {1, 0, 0}, {1, 199, 0}, {1, 200, 1}, {1, 1079, 1},
            {1, 1080, 2}};
        for (int[] r : rows) due("day " + r[0] + " till " + r[1], r[2], x.often(0, r[0], r[1]));
        WhichDay last = ship(LAST, 1);
        due("ahead of the last minute", 0, last.often(0, 15, LAST - 1));
        due("at the last minute", 1, last.often(0, 15, LAST));
        WhichDay first = ship(0, 1);
        due("from 0 on", 1, first.often(0, 1, 0));
        due("not ahead of it", 0, first.often(0, 0, LAST));
    }

    private static void oftenAnyInt() {
        says("HOW OFTEN has one a day d (any int)");
        WhichDay x = plain(HOME);
        int[][] rows = {{MIN, 0}, {MIN + 1, 0}, {-1, 0}, {0, 1}, {13, 1}, {14, 0}, {MAX, 0}, {BAD, 0}};
        for (int[] r : rows) due("day " + r[0], r[1], x.often(0, r[0], LAST));
        WhichDay low = with("p180 0 1;", HOME, 0, 0);
        due("day -1", 1, low.often(0, -1, LAST));
        due("day -2", 0, low.often(0, -2, LAST));
    }

    // ---- DUTY

    private static void dutyFromOn() {
        says("DUTY: the first MINUTE from t on");
        WhichDay x = plain(HOME);
        int[][] rows = {{0, 0, 0}, {1, 0, 1}, {LAST, 0, LAST}, {0, 1, 1440}, {1439, 1, 1440}, {1440, 1, 2880}, {1440, 0, 1440}};
        for (int[] r : rows) due("duty of " + r[1] + " from " + r[0], r[2], x.duty(0, r[0], r[1]));
    }

    private static void dutyOrAbove() {
        says("DUTY: .. its day is that of t and n more, or above");
        WhichDay x = ship(500, 1, 500, 1, 600, -1);
        int[][] rows = {{0, 1, 500}, {0, 2, 500}, {0, 3, 1080 + 1440}, {500, 0, 500}, {500, 1, 2520}, {599, 0, 599}, {600, 1, 1080}};
        for (int[] r : rows) due("duty of " + r[1] + " from " + r[0], r[2], x.duty(0, r[0], r[1]));
        WhichDay back = ship(500, -1);
        due("a day less is none", 2520, back.duty(0, 499, 1));
    }

    private static void dutyRange() {
        says("DUTY of n (0 .. 10) days");
        WhichDay x = plain(HOME);
        int[][] rows = {{0, 0}, {1, 1440}, {9, 12960}, {10, 14400}};
        for (int[] r : rows) due("duty of " + r[0], r[1], x.duty(0, 0, r[0]));
        refusedFor(SOME, "duty", -1, (w, n) -> w.duty(0, 0, n), -1, 11, MIN, MAX);
    }

    private static void dutyNone() {
        says("DUTY: .. -4 none");
        WhichDay x = plain(HOME);
        int[][] rows = {{5759, 10, 18720}, {5760, 10, -4}, {18719, 1, 18720}, {18720, 1, -4}, {LAST, 1, -4}, {LAST, 0, LAST}};
        for (int[] r : rows) due("duty of " + r[1] + " from " + r[0], r[2], x.duty(0, r[0], r[1]));
        WhichDay last = ship(LAST, 1);
        due("at the last minute", LAST, last.duty(0, LAST - 1, 1));
        due("behind it", -4, last.duty(0, LAST - 1, 2));
    }

    // ---- DIFFER, AGREE, PART, GAIN

    /** Two HOMEs: days of 0 begin at 0, 1440, .., days of 1 at 720, 2160, .. */
    private static WhichDay two(int choice) {
        WhichDay x = with("p0 0 9;p180 0 7;", HOME, 0, 0);
        x.traveller(HOME, 1, 0);
        x.choose(1, choice);
        return x;
    }

    private static void differ() {
        says("DIFFER at t: day of a TRAVELLER less that of another one (it may be one)");
        WhichDay x = two(0);
        int[][] rows = {{0, 1, 0, 1}, {1, 0, 0, -1}, {0, 1, 719, 1}, {0, 1, 720, 0}, {0, 1, 1439, 0}, {0, 1, 1440, 1}, {0, 0, 0, 0},
            {1, 1, LAST, 0}};
        for (int[] r : rows) due("differ " + r[0] + ", " + r[1] + " at " + r[2], r[3], x.differ(r[0], r[1], r[2]));
    }

    private static void agreeFromOn() {
        says("AGREE: the first MINUTE from t on at which both have one day");
        WhichDay x = two(0);
        int[][] rows = {{0, 720}, {719, 720}, {720, 720}, {721, 721}, {1439, 1439}, {1440, 2160}, {19439, 19440}, {LAST, LAST}};
        for (int[] r : rows) {
            due("agree from " + r[0], r[1], x.agree(0, 1, r[0]));
            due("the other way from " + r[0], r[1], x.agree(1, 0, r[0]));
        }
        due("one with itself", 77, x.agree(1, 1, 77));
    }

    private static void agreeNone() {
        says("AGREE: .. -4");
        WhichDay never = two(-1);
        due("never", -4, never.agree(0, 1, 0));
        due("not at the last minute", -4, never.agree(0, 1, LAST));
        WhichDay x = with("p0 0 9;p0 0 9+;", OWN, 0, 0);
        x.traveller(SHIP, 0, 0);
        x.captain(1, 0, 1);
        due("not yet", -4, x.agree(0, 1, 0));
        x.captain(1, LAST, -1);
        due("at the last minute", LAST, x.agree(0, 1, 0));
        due("at the last minute", LAST, x.agree(1, 0, LAST));
        x.captain(1, 5, -1);
        x.captain(1, 6, 1);
        due("for a minute", 5, x.agree(0, 1, 0));
        due("behind that", LAST, x.agree(0, 1, 6));
    }

    private static void partFromOn() {
        says("PART: the first MINUTE from t on at which a TRAVELLER's days by two KINDS of COUNTS are unlike");
        WhichDay x = plain(HOME);
        x.leg(0, 0, true, 100, 1);
        int[][] rows = {{0, 101}, {100, 101}, {101, 101}, {159, 159}, {160, -4}};
        for (int[] r : rows) {
            due("home and strict from " + r[0], r[1], x.part(0, HOME, STRICT, r[0]));
            due("strict and home from " + r[0], r[1], x.part(0, STRICT, HOME, r[0]));
        }
        due("home and own", 1080, x.part(0, HOME, OWN, 0));
        due("home and own from 1439", 1439, x.part(0, HOME, OWN, 1439));
        due("home and own from 1440", 2520, x.part(0, HOME, OWN, 1440));
    }

    private static void partNone() {
        says("PART: .. -4");
        WhichDay x = ship(LAST, 1);
        due("at the last minute", LAST, x.part(0, OWN, SHIP, 0));
        due("from it on", LAST, x.part(0, OWN, SHIP, LAST));
        due("never", -4, x.part(0, OWN, TURN, 0));
        due("never", -4, x.part(0, COUNT, HOME, 0));
        WhichDay y = ship(0, 1, 1, -1);
        due("at 0", 0, y.part(0, OWN, SHIP, 0));
        due("from 1 on not any more", -4, y.part(0, OWN, SHIP, 1));
    }

    private static void partTwoKinds() {
        says("PART: -1 (one KIND twice, too); (all else the same)");
        for (int kind = 0; kind < 8; kind++) {
            int one = kind;
            refused(SOME, "kind " + kind + " twice", -1, w -> w.part(0, one, one, 0));
        }
        WhichDay x = ship(500, 1);
        due("its changes stay", 500, x.part(0, OWN, SHIP, 0));
        WhichDay settled = with("p0 0 1;p0 0 1+;", HOME, 0, 1);
        settled.leg(0, 1, true, 0, 1);
        due("its stay stays", 1500, settled.part(0, HOME, SETTLED, 0));
    }

    private static void noneAt20000() {
        says("-4 none: what would be at 20000 only, a minute behind the last");
        // at 40 degrees a day begins at 18560 and would at 20000; at 41 degrees at 19996; at 0 at 18720
        WhichDay x = with("p40 0 1;p41 0 1;p0 0 1+;p0 0 1;", HOME, 0, 0);
        x.traveller(HOME, 1, 0);
        x.traveller(HOME, 2, 0);
        due("a duty", -4, x.duty(0, 18560, 1));
        due("a duty, a minute ahead", 18560, x.duty(0, 18559, 1));
        due("a duty inside", 19996, x.duty(1, 18560, 1));
        due("a long day", -4, x.longDay(0, 18560));
        due("a long day inside", 1440, x.longDay(1, 18556));
        due("agree", -4, x.agree(0, 2, 18720));
        due("agree, a minute ahead", 18719, x.agree(0, 2, 18719));
        due("agree inside", 19996, x.agree(1, 2, 18720));
        // in place 3 from 60 on, whose day 13 is from 18720 on
        x.leg(0, 3, true, 0, 1);
        x.leg(1, 3, true, 0, 1);
        due("parted", -4, x.part(0, HOME, PLACE, 18720));
        due("parted, a minute ahead", 18719, x.part(0, HOME, PLACE, 18719));
        due("parted inside", 19996, x.part(1, HOME, PLACE, 18720));
        due("a day that would begin then", 0, x.often(0, 14, LAST));
        due("one that begins inside", 1, x.often(1, 14, LAST));
    }

    private static void gain() {
        says("GAIN of a KIND: a TRAVELLER's day by it at a MINUTE less HOME's");
        WhichDay x = with("p0 0 1+;p0 0 1-;", STRICT, 0, 0);
        x.leg(0, 1, true, 100, 1);
        int[][] rows = {{COUNT, 0, -1}, {OWN, 1079, -1}, {OWN, 1080, 0}, {PLACE, 100, 0}, {PLACE, 101, -1}, {PLACE, 160, -2}, {HOME, 101, 0},
            {STRICT, 100, 0}, {STRICT, 101, 1}, {STRICT, 160, 0}, {SETTLED, 159, 0}, {SETTLED, 160, -2}, {TURN, 0, -1}, {SHIP, 0, -1}};
        for (int[] r : rows) due("gain by " + r[0] + " at " + r[1], r[2], x.gain(0, r[0], r[1]));
    }

    // ---- lines

    private static void wrongEachOnce() {
        says("WRONG: all HOW MUCH of pairs that trade (each once), times PEOPLE of both together");
        WhichDay x = with("p0 0 3;p0 0 4+;p0 0 5;w0 1 10;w1 0 20;w1 2 7;w0 2 99;");
        due("two pairs", 20 * 7 + 7 * 9, x.wrong(180, 0));
        read(x, "w0 1 0;");
        due("one that trades nothing any more", 7 * 9, x.wrong(180, 0));
        WhichDay none = with("p0 0 0;p0 0 0+;w0 1 99;");
        due("no people", 0, none.wrong(0, 0));
        WhichDay one = with("p0 0 1;p0 0 0+;w0 1 1;");
        due("one", 1, one.wrong(0, 0));
        due("no places", 0, new WhichDay().wrong(0, 0));
    }

    private static void wrongUnlike() {
        says("WRONG: .. whose DAYS (by RULES and CHOICES, with that LINE) are unlike");
        // both at 0 degrees, by midnight and by sunset: unlike from 1080 to 1439
        WhichDay x = with("p0 0 1;p0 1 1;w0 1 1;");
        int[][] rows = {{180, 0, 0}, {180, 1079, 0}, {180, 1080, 2}, {180, 1439, 2}, {180, 1440, 0}};
        for (int[] r : rows) due("wrong with " + r[0] + " at " + r[1], r[2], x.wrong(r[0], r[1]));
        // at 10 and 20 degrees: the line between them, or on one of them, at 0
        WhichDay y = with("p10 0 1;p20 0 1;w0 1 1;");
        int[][] lines = {{9, 0}, {10, 0}, {11, 2}, {19, 2}, {20, 2}, {21, 0}};
        for (int[] r : lines) due("wrong with a line at " + r[0], r[1], y.wrong(r[0], 0));
        due("the line stays", 180, y.count(3));
    }

    private static void wrongMost() {
        says("WRONG with all that can be");
        // 5 places a day ahead of 5 others, at 0 degrees all
        StringBuilder s = new StringBuilder();
        for (int p = 0; p < 10; p++) s.append(p < 5 ? "p0 0 999;" : "p0 0 999+;");
        WhichDay x = with(s.toString());
        for (int a = 0; a < 4; a++) {
            StringBuilder w = new StringBuilder();
            for (int b = a + 1; b < 10; b++) w.append("w").append(a).append(" ").append(b).append(" 99;");
            read(x, w.toString());
        }
        // the first four trade with all, so each with the five that chose
        due("four times five pairs", 20 * 99 * 1998, x.wrong(0, 0));
        due("its best line is no better", 20 * 99 * 1998, x.bestLine(0, 1));
    }

    private static void bestLineDegrees() {
        says("BEST LINE: of DEGREES 0, 15, .. 345 the one with the least WRONG");
        WhichDay x = with("p345 0 1;p330 0 1-;w0 1 1;");
        // with a line at 331 .. 345 the day at 345 is one less than that at 330, as 330 chose
        due("a degree ahead", 2, x.wrong(330, 0));
        due("the last of them", 0, x.wrong(345, 0));
        due("a degree behind", 2, x.wrong(346, 0));
        due("best", 345, x.bestLine(0, 0));
        due("its wrong", 0, x.bestLine(0, 1));
        // with a line on 0, and not a degree aside
        WhichDay first = with("p0 0 1;p359 0 1-;w0 1 1;");
        due("a degree ahead of the first of them", 2, first.wrong(359, 0));
        due("the first of them", 0, first.wrong(0, 0));
        due("a degree behind it", 2, first.wrong(1, 0));
        due("best", 0, first.bestLine(0, 0));
        due("its wrong", 0, first.bestLine(0, 1));
        // between two of these degrees alone nothing would be wrong
        WhichDay between = with("p10 0 1;p5 0 1-;w0 1 1;");
        due("between", 0, between.wrong(7, 0));
        due("none of these degrees", 0, between.bestLine(0, 0));
        due("its wrong", 2, between.bestLine(0, 1));
    }

    private static void bestLineLeast() {
        says("BEST LINE: .. of several the least");
        due("no places", 0, new WhichDay().bestLine(0, 0));
        due("no places", 0, new WhichDay().bestLine(LAST, 1));
        WhichDay x = with("p10 0 1-;p50 0 1;w0 1 1;");
        // none wrong with a line at 11 .. 50: 15, 30, 45
        due("not yet", 2, x.wrong(0, 0));
        for (int degree : new int[] {15, 30, 45}) due("one of several", 0, x.wrong(degree, 0));
        due("no more", 2, x.wrong(60, 0));
        due("its wrong", 0, x.bestLine(0, 1));
        due("of several the least", 15, x.bestLine(0, 0));
        WhichDay all = with("p0 0 1;p0 0 1+;w0 1 1;");
        due("all alike", 0, all.bestLine(0, 0));
        refusedFor(SOME, "bestLine", -1, (w, what) -> w.bestLine(0, what), -1, 2, MIN, MAX);
    }

    private static void movedBits() {
        says("MOVED: PLACES (bits) whose DAY at t is another one with another LINE");
        WhichDay x = with("p10 0 1;p20 0 1;p30 0 1;p40 0 1;p50 0 1;p60 0 1;p70 0 1;p80 0 1;p90 0 1;p100 0 1;l0;");
        // at 0 all have day -1; with a line behind one (these degrees eastward) its day is 0
        due("the line that is", 0, x.moved(0, 0));
        due("the line that is", 0, x.moved(0, LAST));
        int[][] rows = {{10, 0}, {11, 1}, {20, 1}, {21, 3}, {90, 255}, {91, 511}, {100, 511}, {101, 1023}, {359, 0}};
        for (int[] r : rows) due("moved by " + r[0], r[1], x.moved(r[0], 0));
        due("the line stays", 0, x.count(3));
        due("no places", 0, new WhichDay().moved(5, 0));
    }

    // ---- JUDGED

    private static void judgeStep() {
        says("JUDGED by the ROW (n 1 .. 9999)");
        WhichDay x = row(plain(HOME), 0, BYTES, 0, 1);
        int[][] rows = {{1, 1439, -4}, {2, 1438, -4}, {9999, 0, 1}, {9998, 0, 1}};
        for (int[] r : rows) due("a step of " + r[0], r[2], x.judge(0, 0, r[1], r[0]));
        row(x, 0, BYTES, 0, 6, 13);
        due("the greatest step", -4, x.judge(0, 0, 1, 9999));
        refusedFor(SOME, "judge", -1, (w, n) -> w.judge(0, 3, 0, n), 0, 10000, -1, MIN, MAX);
        refusedFor(SOME, "judge by no elements", -1, (w, n) -> w.judge(0, 5, 0, n), 0, 10000, -1, MIN, MAX);
    }

    private static void judgeMinutes() {
        says("JUDGED: -1 (a MINUTE above 19999 of any element, too)");
        WhichDay x = row(plain(HOME), 0, BYTES, 13, 13, 13);
        int[][] rows = {{LAST - 2, 1, -4}, {LAST - 1, 1, -1}, {LAST, 1, -1}, {1, 9999, 0}, {2, 9999, -1}, {0, 9999, 0}, {19, 9990, 0},
            {20, 9990, -1}};
        for (int[] r : rows) due("from " + r[0] + " by " + r[1], r[2], x.judge(0, 0, r[0], r[1]));
        row(x, 0, BYTES, 13);
        due("one alone", -4, x.judge(0, 0, LAST, 9999));
        row(x, 0, BYTES, 99, -128);
        due("one that isn't told, behind one that is wrong", -1, x.judge(0, 0, LAST, 1));
        due("just not", 0, x.judge(0, 0, LAST - 1, 1));
        x.row(0, INTS, 100);
        due("a hundred", 8, x.judge(0, 0, 0, 202));
        due("a hundred up to the last minute", 8, x.judge(0, 0, 1, 202));
        due("a hundred and a minute more", -1, x.judge(0, 0, 2, 202));
        due("a hundred by the greatest step", -1, x.judge(0, 0, 0, 9999));
        x.row(0, INTS, 0);
        due("none", -4, x.judge(0, 0, LAST, 9999));
        refused(SOME, "beyond the last minute", -1, w -> w.judge(0, 3, LAST - 2, 1));
    }

    private static void judgeUntold() {
        says("JUDGED: (the least number of the SORT is not told and skipped)");
        int[] least = {-128, -32768, MIN};
        for (int sort = 0; sort < 3; sort++) {
            WhichDay x = row(plain(HOME), 0, sort, least[sort], 0, least[sort]);
            due("skipped in sort " + sort, -4, x.judge(0, 0, 0, 1));
            row(x, 0, sort, least[sort] + 1, 0);
            due("one more is told", 0, x.judge(0, 0, 0, 1));
            row(x, 0, sort, 0, least[sort], least[sort] + 1);
            due("behind one that is skipped", 2, x.judge(0, 0, 0, 1));
            for (int other = 0; other < sort; other++) {
                row(x, 0, sort, least[other]);
                due("the least of another sort is told", 0, x.judge(0, 0, 0, 1));
            }
        }
    }

    private static void judgeFirst() {
        says("JUDGED: the place of the first that is wrong");
        WhichDay x = row(plain(HOME), 0, SHORTS, 0, 1, 9, 3, 9);
        due("the third", 2, x.judge(0, 0, 0, 1440));
        x.put(0, 0, 1);
        due("the first", 0, x.judge(0, 0, 0, 1440));
        row(x, 0, SHORTS, 0, 1, 2, 3, 9);
        due("the last", 4, x.judge(0, 0, 0, 1440));
        due("from a minute ahead", 1, row(x, 0, SHORTS, 0, 1).judge(0, 0, 1438, 1));
        x.row(0, INTS, 100);
        x.put(0, 99, 1);
        due("the hundredth", 99, x.judge(0, 0, 0, 1));
        WhichDay low = row(with("p180 0 1;", HOME, 0, 0), 0, BYTES, -1, -1, 0);
        due("days below 0", -4, low.judge(0, 0, 718, 1));
        due("days below 0", 2, low.judge(0, 0, 717, 1));
    }

    private static void judgeNone() {
        says("JUDGED: .. -4 none");
        WhichDay x = row(plain(HOME), 0, INTS, 0, 1, 2);
        due("all as they are", -4, x.judge(0, 0, 0, 1440));
        due("none told", -4, row(x, 0, BYTES).judge(0, 0, 0, 1));
    }

    // ---- KEPT

    /** Under way, from 1 to 11999, by 0 degrees: at home, where the day is t by 1440, or one less with e 0. */
    private static WhichDay underWay(String home) {
        WhichDay x = with(home, HOME, 0, 0);
        x.leg(0, 0, true, 0, 200);
        return x;
    }

    private static void keptModulo() {
        says("KEPT: .. HERE's DAY modulo 7 is a told number (modulo 7 is 0 .. 6)");
        WhichDay x = underWay("p0 0 1;");
        for (int day = 0; day < 8; day++) {
            row(x, 0, INTS, 1440 * day + 1);
            for (int rest = 0; rest < 7; rest++) due("day " + day + ", rest " + rest, day % 7 == rest ? 0 : -4, x.kept(0, 0, rest));
        }
        WhichDay low = underWay("p180 0 1;");
        row(low, 0, INTS, 719);
        for (int rest = 0; rest < 7; rest++) due("day -1, rest " + rest, rest == 6 ? 0 : -4, low.kept(0, 0, rest));
        row(low, 0, INTS, 720);
        for (int rest = 0; rest < 7; rest++) due("day 0, rest " + rest, rest == 0 ? 0 : -4, low.kept(0, 0, rest));
    }

    private static void keptFirst() {
        says("KEPT: the place of the first at which it is; -4 none");
        WhichDay x = underWay("p0 0 1;");
        due("the first", 0, row(x, 0, INTS, 1, 2, 3).kept(0, 0, 0));
        due("the second", 1, row(x, 0, INTS, 1440, 1439, 3).kept(0, 0, 0));
        due("the last", 2, row(x, 0, INTS, 0, 1440, 1439).kept(0, 0, 0));
        due("none", -4, row(x, 0, INTS, 0, 1440, 10080 - 1).kept(0, 0, 0));
        due("a week later", 3, row(x, 0, INTS, 0, 1440, 10080 - 1, 10080).kept(0, 0, 0));
        due("no duties", -4, row(x, 0, INTS).kept(0, 0, 0));
    }

    private static void keptUnderWay() {
        says("KEPT: whether at each of them .. a TRAVELLER is not UNDER WAY");
        WhichDay x = with("p0 1 1+;", PLACE, 0, 0);
        x.leg(0, 0, false, 100, 1);
        int[][] rows = {{0, -4}, {100, -4}, {101, 0}, {159, 0}, {160, -4}, {LAST, -4}};
        for (int[] r : rows) {
            row(x, 0, INTS, r[0]);
            due("a duty at " + r[0], r[1], x.kept(0, 0, 0));
            due("without the choice, at " + r[0], -4, x.kept(0, 0, 1));
        }
    }

    private static void keptMinutes() {
        says("KEPT: -13: no MINUTE (any of them)");
        for (int t : new int[] {-1, LAST + 1, MIN, MAX})
            for (int at = 0; at < 3; at++) {
                int place = at;
                Recipe r = () -> {
                    WhichDay w = some();
                    w.put(4, place, t);
                    return w;
                };
                refused(r, "kept with " + t + " at " + at, -13, w -> w.kept(0, 4, 0));
                refused(r, "plan with " + t + " at " + at, -13, w -> w.plan(0, 4, 0));
            }
        WhichDay x = underWay("p0 0 1;");
        due("the first and the last minute", -4, row(x, 0, INTS, 0, LAST).kept(0, 0, 0));
        due("the first and the last minute", 0, row(x, 0, INTS, 0, LAST).plan(0, 0, 0));
    }

    private static void keptRest() {
        says("KEPT: a rest day 0 .. 6");
        WhichDay x = row(underWay("p0 0 1;"), 0, INTS, 8640);
        due("the first", -4, x.kept(0, 0, 0));
        due("the last but one", -4, x.kept(0, 0, 5));
        due("the last", 0, x.kept(0, 0, 6));
        due("a plan for the first", 0, x.plan(0, 0, 0));
        due("a plan for the last", -4, x.plan(0, 0, 6));
        refusedFor(SOME, "kept", -1, (w, rest) -> w.kept(0, 4, rest), -1, 7, MIN, MAX);
        refusedFor(SOME, "plan", -1, (w, rest) -> w.plan(0, 4, rest), -1, 7, MIN, MAX);
    }

    // ---- A LOG

    private static void logShifts() {
        says("A LOG: SHIFTS k (-3 .. 3; as bits, bit 0 for -3) with which each day written is an OWN's less k");
        WhichDay x = plain(HOME);
        // an OWN's at 0 is 0, at 1080 is 1
        int[][] rows = {{4, 0}, {3, 1}, {2, 2}, {1, 4}, {0, 8}, {-1, 16}, {-2, 32}, {-3, 64}, {-4, 0}};
        for (int[] r : rows) {
            due("0 written as " + r[0], r[1], row(x, 0, BYTES, 0, r[0]).log(0, 0));
            due("1 written as one more than " + r[0], r[1], row(x, 0, INTS, 1080, r[0] + 1, 0, r[0]).log(0, 0));
        }
        due("two that have none in common", 0, row(x, 0, INTS, 0, 0, 1080, 0).log(0, 0));
        due("at the edge of a day", 0, row(x, 0, INTS, 1079, 0, 1080, 0).log(0, 0));
        due("at the edge of a day", 8, row(x, 0, INTS, 1079, 0, 1080, 1).log(0, 0));
        due("the greatest day", 0, row(x, 0, INTS, 0, MAX).log(0, 0));
        due("the least day that is told", 0, row(x, 0, INTS, 0, MIN + 1).log(0, 0));
        due("by an OWN's, whatever it is", 8, row(ship(0, 1), 0, INTS, 0, 0).log(0, 0));
    }

    private static void logLeftOut() {
        says("A LOG: (a pair with the least number of the SORT in it is left out, whatever else it tells)");
        int[] least = {-128, -32768, MIN};
        for (int sort = 0; sort < 3; sort++) {
            WhichDay x = plain(HOME);
            int no = least[sort];
            due("in its first", 8, row(x, 0, sort, no, 5, 0, 0).log(0, 0));
            due("in its second", 8, row(x, 0, sort, 0, 0, 3, no).log(0, 0));
            due("in both", 8, row(x, 0, sort, no, no, 0, 0).log(0, 0));
            due("with no minute", 8, row(x, 0, sort, -1, no, 0, 0).log(0, 0));
            due("with no minute", 8, row(x, 0, sort, 0, 0, no + 1, no).log(0, 0));
            due("all of them", 127, row(x, 0, sort, no, 1, -7, no).log(0, 0));
            due("none written", 127, row(x, 0, sort).log(0, 0));
            due("one more is no minute", -13, row(x, 0, sort, no + 1, 0).log(0, 0));
            due("one more is a day", 0, row(x, 0, sort, 0, no + 1).log(0, 0));
        }
        WhichDay y = plain(HOME);
        due("the least of bytes in a row of shorts", -13, row(y, 0, SHORTS, -128, 0).log(0, 0));
        due("the least of shorts in a row of ints", 0, row(y, 0, INTS, 0, -32768).log(0, 0));
    }

    private static void logOdd() {
        says("A LOG: -13: an odd size");
        for (int n : new int[] {1, 3, 99}) {
            WhichDay x = plain(HOME);
            x.row(0, INTS, n);
            due("a size of " + n, -13, x.log(0, 0));
        }
        for (int n : new int[] {0, 2, 98, 100}) {
            WhichDay x = plain(HOME);
            x.row(0, INTS, n);
            due("a size of " + n, n == 0 ? 127 : 8, x.log(0, 0));
        }
        due("odd, and all left out", -13, row(plain(HOME), 0, BYTES, -128, -128, -128).log(0, 0));
        refused(SOME, "a row of three", -13, w -> w.log(0, 2));
    }

    private static void logMinutes() {
        says("A LOG: -13: .. no MINUTE");
        WhichDay x = plain(HOME);
        due("the last minute", 8, row(x, 0, INTS, LAST, 14).log(0, 0));
        due("the last minute of shorts", 8, row(x, 0, SHORTS, LAST, 14).log(0, 0));
        due("the first minute", 8, row(x, 0, INTS, 0, 0).log(0, 0));
        for (int t : new int[] {-1, LAST + 1, MIN + 1, MAX}) {
            due(t + " first", -13, row(x, 0, INTS, t, 0, 0, 0).log(0, 0));
            due(t + " last", -13, row(x, 0, INTS, 0, 99, t, 0).log(0, 0));
        }
        due("a minute above of shorts", -13, row(x, 0, SHORTS, LAST + 1, 14).log(0, 0));
        Recipe r = () -> row(some(), 0, INTS, 0, 0, LAST + 1, 0);
        refused(r, "no minute", -13, w -> w.log(0, 0));
    }

    // ---- A PLAN

    /** To 200 degrees and back, a day each: at 1000 westward it is day 0 there, eastward 1; at 1740 westward 1, eastward 0. */
    private static WhichDay thereAndBack() {
        WhichDay x = with("p0 0 1;p200 0 1;", HOME, 0, 0);
        x.leg(0, 1, true, 0, 24);
        x.leg(0, 0, true, 1440, 24);
        return x;
    }

    private static void planLeast() {
        says("A PLAN: of all ways .. the least with which it is KEPT");
        WhichDay x = thereAndBack();
        due("all ways are well", 0, row(x, 0, INTS, 0, 1440, 2880).plan(0, 0, 0));
        due("no duties", 0, row(x, 0, INTS).plan(0, 0, 0));
        due("the first must be east", 1, row(x, 0, INTS, 1000).plan(0, 0, 0));
        due("the second must be east", 2, row(x, 0, INTS, 1740).plan(0, 0, 1));
        due("west is well", 0, row(x, 0, INTS, 1000).plan(0, 0, 1));
    }

    private static void planBits() {
        says("A PLAN: EAST (1) or WEST (0) in a TRAVELLER's LEGS (bits, LEG 0's the lowest)");
        WhichDay none = row(plain(HOME), 0, INTS, 0, LAST);
        for (int rest = 0; rest < 7; rest++) due("no legs", 0, none.plan(0, 0, rest));
        // six legs to and fro, the short way and the long way round each
        WhichDay x = with("p0 0 1;p100 0 1;l150;", HOME, 0, 0);
        for (int k = 0; k < 6; k++) x.leg(0, k % 2 == 0 ? 1 : 0, k % 2 != 0, 60 * k, 1);
        for (int k = 0; k < 6; k++) {
            row(x, 0, INTS, 60 * k + 30);
            int west = hereAt(k, false), east = hereAt(k, true);
            for (int rest = 0; rest < 7; rest++) {
                boolean westBreaks = (west + 7) % 7 == rest, eastBreaks = (east + 7) % 7 == rest;
                due("leg " + k + ", rest " + rest, westBreaks && eastBreaks ? -4 : westBreaks ? 1 << k : 0, x.plan(0, 0, rest));
            }
        }
    }

    private static void planAllEast() {
        says("A PLAN: of six LEGS all EAST");
        WhichDay x = with("p220 0 1;p60 0 1;p80 0 1;p110 0 1;p70 0 1;", COUNT, 0, 0);
        int[] to = {1, 2, 3, 2, 4, 1};
        int[] from = {755, 845, 935, 1025, 1115, 1195};
        int[] duties = {775, 895, 985, 1045, 1165, 1225};
        for (int k = 0; k < 6; k++) x.leg(0, to[k], false, from[k], 1);
        due("all", 63, row(x, 0, INTS, duties).plan(0, 0, 1));
        for (int k = 0; k < 6; k++) due("leg " + k + " alone", 1 << k, row(x, 0, INTS, duties[k]).plan(0, 0, 1));
    }

    /** HERE's day half way on leg k between 0 and 100 degrees: at 50 or at 230; the line at 150. */
    private static int hereAt(int k, boolean east) {
        boolean shortWay = k % 2 == 0 == east;
        int e = (shortWay ? 50 : 230) - 150 + (shortWay ? 360 : 0);
        return Math.floorDiv(60 * k + 30 + 4 * e - 720, 1440);
    }

    private static void planInMind() {
        says("A PLAN: .. (in mind)");
        WhichDay x = thereAndBack();
        row(x, 0, INTS, 1740);
        due("a plan", 2, x.plan(0, 0, 1));
        due("legs as they were", 1, x.rounds(0, 1440));
        due("legs as they were", 1, x.rounds(0, 2880));
        due("where as it was", 100, x.where(0, 720, 0));
        due("the row as it was", 1740, x.element(0, 0));
    }

    private static void planNone() {
        says("A PLAN: -4");
        WhichDay x = thereAndBack();
        // at 720 both ways are at day 0: at 100 and at 280 degrees
        due("neither way", -4, row(x, 0, INTS, 720, 1000).plan(0, 0, 0));
        due("the last duty breaks it", -4, row(x, 0, INTS, 0, 1440, 1000, 720).plan(0, 0, 0));
        due("kept on another day", 0, row(x, 0, INTS, 720, 1000).plan(0, 0, 3));
        WhichDay still = underWay("p0 0 1;");
        due("by 0 degrees both ways are one", -4, row(still, 0, INTS, 1439).plan(0, 0, 0));
        due("by 0 degrees a minute later", 0, row(still, 0, INTS, 1440).plan(0, 0, 0));
    }
}
