import java.lang.reflect.InvocationTargetException;
import java.lang.reflect.Method;
import java.lang.reflect.Modifier;
import java.util.Arrays;

/**
 * THE IMAGE, what is told, SHELVES, and the rows on refusals: the order of
 * several of them, and that a refused call changes nothing. Each sentence has
 * a test of its own, on its boundary, just inside it and just outside it.
 */
public final class RefusalTest extends Bench {
    private static final long STATE = Long.MAX_VALUE, ARGUMENT = Long.MIN_VALUE;

    public static void main(String[] args) {
        newObject();
        placeWhat();
        tradeOneTwice();
        noShip();
        countWhat();
        imageNone();
        imageHowMany();
        imageHoldsAll();
        imageOfAllThatCanBe();
        imageStays();
        imageWithoutShelves();
        restoredApart();
        restoredSmaller();
        keepNothing();
        keepWhat();
        itItself();
        stillThere();
        rowAnew();
        putPlaces();
        elementThrows();
        copySpans();
        copyOverlaps();
        copySorts();
        weightOf();
        tossNumbers();
        tossNone();
        nothingHeld();
        ofAnotherKind();
        orderOfNoSuchAndNoRoom();
        orderOfNoRoomAndAsThingsStand();
        orderOnShelves();
        orderOfCopy();
        orderInRows();
        thousandMillionsLess();
        noneChangesNothing();
        nothingElseThrown();
        finish();
    }

    // ---- what there is at first, what is told

    private static void newObject() {
        says("Promise 1: No PLACES, TRAVELLERS");
        WhichDay x = new WhichDay();
        int[] want = {0, 0, 0, 180, 0, 0};
        for (int what = 0; what < 6; what++) due("count " + what, want[what], x.count(what));
        for (int d = 0; d < 8; d++) {
            due("weight of shelf " + d, -11, x.weight(d));
            due("an element of shelf " + d, STATE, element(x, d, 0));
        }
        due("an image", -3, x.restore());
        due("wrong", 0, x.wrong(0, 0));
        due("moved", 0, x.moved(0, 0));
    }

    private static void placeWhat() {
        says("Promise 3: 0 DEGREE, 1 RULE, 2 CHOICE, 3 PEOPLE");
        WhichDay x = with("p7 2 9-;");
        int[] want = {7, 2, -1, 9};
        for (int what = 0; what < 4; what++) due("what " + what, want[what], x.place(0, what));
        refusedFor(SOME, "place", BAD, (w, what) -> w.place(0, what), -1, 4, MIN, MAX);
    }

    private static void tradeOneTwice() {
        says("Promise 4: -1 (one twice, too)");
        for (int p = 0; p < 3; p++) {
            int one = p;
            refused(SOME, "trade of " + p + " with itself", -1, w -> w.trade(one, one));
        }
        refused(FRESH, "trade where no places are", -1, w -> w.trade(0, 1));
        WhichDay x = some();
        due("two", 5, x.trade(0, 1));
        due("the other way", 5, x.trade(1, 0));
        due("two that do not", 0, x.trade(0, 2));
    }

    private static void noShip() {
        says("Promise 11: -3: it is no SHIP");
        for (int kind = 0; kind < 8; kind++) {
            int one = kind;
            Recipe r = () -> with("p0 0 1;", one, 0, 0);
            if (kind == SHIP) due("a ship", 1, r.make().captain(0, 0, 1));
            else refused(r, "of kind " + kind, -3, w -> w.captain(0, 0, 1));
        }
    }

    private static void countWhat() {
        says("Promise 34: 0 PLACES, .. 5 pairs that trade (HOW MUCH above 0); -1 for others");
        int[] want = {3, 3, 4, 20, 579, 2};
        WhichDay x = some();
        for (int what = 0; what < 6; what++) due("count " + what, want[what], x.count(what));
        read(x, "w0 1 0;");
        due("one that trades 0", 1, x.count(5));
        read(x, "w0 1 1;");
        due("one that trades 1", 2, x.count(5));
        WhichDay full = full();
        int[] most = {10, 8, 6, 180, 18, 0};
        for (int what = 0; what < 6; what++) due("count " + what, most[what], full.count(what));
        refusedFor(SOME, "count", -1, (w, what) -> w.count(what), -1, 6, MIN, MAX);
    }

    // ---- THE IMAGE

    private static void imageNone() {
        says("Promise 33: -3: there is none");
        refused(FRESH, "restore", -3, w -> w.restore());
        Recipe r = () -> row(with("p0 0 1;", COUNT, 0, 0), 0, INTS, 1);
        refused(r, "restore", -3, w -> w.restore());
        WhichDay x = new WhichDay();
        due("image", 0, x.image());
        due("restore of nothing", 0, x.restore());
        due("restore once more", 0, x.restore());
    }

    private static void imageHowMany() {
        says("Promises 32, 33: how many TRAVELLERS");
        WhichDay x = with("p0 0 1;");
        for (int k = 0; k <= 8; k++) {
            due("image of " + k, k, x.image());
            x.traveller(COUNT, 0, 0);
            due("restore of " + k, k, x.restore());
            due("so many there", k, x.count(1));
            due("a traveller more", k < 8 ? k : -2, x.traveller(COUNT, 0, 0));
        }
    }

    private static void imageHoldsAll() {
        says("THE IMAGE: all that there is; RESTORED all is as it was then");
        WhichDay x = with("p0 0 5;p90 1 6+;w0 1 7;l30;");
        x.traveller(SHIP, 1, 3);
        x.leg(0, 0, true, 10, 1);
        x.captain(0, 40, 1);
        long[] then = whatIsTold(x);
        x.image();
        x.choose(0, 1);
        x.choose(1, -1);
        x.line(31);
        read(x, "p9 0 1;w0 1 8;w0 2 3;");
        x.leg(0, 1, false, 70, 2);
        x.captain(0, 0, -1);
        x.traveller(HOME, 2, 0);
        due("restore", 1, x.restore());
        long[] now = whatIsTold(x);
        for (int i = 0; i < then.length; i++) due("what is told, row " + i, then[i], now[i]);
        due("no third place", BAD, x.place(2, 0));
        due("no second traveller", BAD, x.day(1, 0));
        due("its next leg", 2, x.leg(0, 1, true, 70, 1));
        due("its next change", 2, x.captain(0, 5, 1));
        due("a place more", 1, read(x, "p9 0 1;"));
        due("which trades with none", 0, x.trade(0, 2));
    }

    private static long[] whatIsTold(WhichDay x) {
        return new long[] {x.count(0), x.count(1), x.count(2), x.count(3), x.count(4), x.count(5), x.place(0, 2), x.place(1, 0), x.place(1, 1),
            x.place(1, 2), x.place(1, 3), x.trade(0, 1), x.in(0, 0), x.in(0, 11), x.in(0, 70), x.in(0, 200), x.where(0, 40, 0),
            x.where(0, 40, 1), x.day(0, 39), x.day(0, 40), x.day(0, LAST), x.dayOf(0, 500), x.dayOf(1, 500)};
    }

    private static void imageOfAllThatCanBe() {
        says("THE IMAGE with no room left in it");
        WhichDay x = full();
        read(x, "w8 9 7;w0 9 8;w0 1 9;");
        x.image();
        read(x, "w8 9 1;w0 9 2;w0 1 3;l5;");
        for (int p = 0; p < 10; p++) x.choose(p, 1);
        for (int k = 1; k < 8; k++) {
            x.leg(k, 0, true, 0, 1);
            x.captain(k, 0, 1);
        }
        due("restore", 8, x.restore());
        due("first and second", 9, x.trade(0, 1));
        due("first and last", 8, x.trade(0, 9));
        due("the last two", 7, x.trade(8, 9));
        due("line", 180, x.count(3));
        due("legs", 6, x.count(2));
        for (int p = 0; p < 10; p++) due("choice of " + p, 0, x.place(p, 2));
        for (int k = 0; k < 8; k++) {
            x.keep(k, 1, k);
            due("weight of " + k, k == 0 ? 25 : 11, x.weight(k));
            x.leg(k, 0, true, 9000, 1);
            due("number of " + k, 100 + k, x.toss(k));
            due("home of " + k, k, x.in(k, 0));
        }
        int[][] legs = {{60, 1}, {150, 1}, {210, 2}, {360, 3}, {510, 4}, {660, 5}, {869, -4}, {870, 6}};
        for (int[] l : legs) due("in at " + l[0], l[1], x.in(0, l[0]));
        WhichDay settled = with("p0 0 1;p0 0 1+;", SETTLED, 0, 3);
        settled.image();
        settled.restore();
        settled.leg(0, 1, true, 0, 1);
        settled.keep(0, 1, 0);
        due("its stay", 203, settled.toss(0));
        due("its stay", 4380, settled.part(0, HOME, SETTLED, 0));
    }

    private static void imageStays() {
        says("THE IMAGE stays as it was taken, however often it is RESTORED");
        WhichDay x = with("p0 0 5;", COUNT, 0, 0);
        x.image();
        for (int i = 0; i < 3; i++) {
            due("a leg", 1, x.leg(0, 0, true, 0, 1));
            due("the line", 180, x.line(i));
            due("a choice", 0, x.choose(0, 1));
            due("restore", 1, x.restore());
            due("no leg", 0, x.count(2));
        }
        x.leg(0, 0, true, 0, 1);
        x.image();
        x.leg(0, 0, true, 60, 1);
        x.restore();
        due("of two images the last", 1, x.count(2));
    }

    private static void imageWithoutShelves() {
        says("THE IMAGE: .. but SHELVES; when THE IMAGE is RESTORED, SHELVES stay as they are");
        WhichDay x = with("p0 0 5;", COUNT, 0, 0);
        row(x, 0, INTS, 1);
        x.keep(1, 0, 0);
        x.keep(2, 1, 0);
        x.image();
        x.put(0, 0, 2);
        row(x, 1, BYTES, 3);
        row(x, 2, SHORTS, 4);
        x.keep(3, 1, 0);
        x.restore();
        due("what was put since", 2, x.element(0, 0));
        due("a row since", 3, x.element(1, 0));
        due("a row where a traveller was", 4, x.element(2, 0));
        due("a traveller since", 10, x.weight(3));
        due("nothing, still", -11, x.weight(4));
    }

    private static void restoredApart() {
        says("(TRAVELLERS on SHELVES stay as they are, apart from those from then on)");
        WhichDay x = with("p0 0 5;p9 0 1;", SHIP, 0, 0);
        x.leg(0, 1, true, 0, 1);
        x.keep(0, 1, 0);
        x.image();
        due("an image parts nothing", 2, x.leg(0, 0, true, 60, 1));
        due("it itself", 13, x.weight(0));
        due("restore", 1, x.restore());
        due("as it was on the shelf", 13, x.weight(0));
        due("as it was then", 1, x.count(2));
        x.captain(0, 0, 1);
        x.captain(0, 0, 1);
        due("apart from then on", 13, x.weight(0));
        x.keep(1, 1, 0);
        due("the one that there is", 14, x.weight(1));
        x.restore();
        due("that one apart, too", 14, x.weight(1));
        due("and the first", 13, x.weight(0));
        x.keep(2, 1, 0);
        due("a third", 12, x.weight(2));
        due("its failure", 100, x.toss(0));
    }

    private static void restoredSmaller() {
        says("RESTORED all is as it was then: what came since is gone");
        WhichDay x = new WhichDay();
        x.image();
        read(x, "p0 0 1;p5 0 1;w0 1 9;");
        x.traveller(SETTLED, 1, 7);
        x.leg(0, 0, true, 0, 1);
        x.keep(0, 1, 0);
        due("restore", 0, x.restore());
        due("no place", BAD, x.place(0, 0));
        due("no traveller", BAD, x.day(0, 0));
        due("no traveller to keep", -1, x.keep(1, 1, 0));
        due("its weight stays", 29, x.weight(0));
        due("its failure stays", 207, x.toss(0));
        read(x, "p0 0 1;p5 0 1;");
        due("no trade of old", 0, x.trade(0, 1));
        due("a first traveller", 0, x.traveller(COUNT, 0, 0));
        due("without legs", 0, x.count(2));
    }

    // ---- SHELVES

    private static void keepNothing() {
        says("Promise 35: what = 0 nothing (the others do not matter)");
        for (int k : new int[] {0, 2, 3, 8, -1, MIN, MAX}) {
            WhichDay x = some();
            for (int d = 0; d < 8; d++) {
                due("nothing on " + d, 0, x.keep(d, 0, k));
                due("nothing is there", -11, x.weight(d));
            }
        }
        due("without travellers", 0, new WhichDay().keep(7, 0, 0));
    }

    private static void keepWhat() {
        says("Promise 35: 0 nothing; 1 TRAVELLER k. -1");
        refusedFor(SOME, "keep", -1, (w, what) -> w.keep(1, what, 0), -1, 2, MIN, MAX);
        refusedFor(SOME, "keep in place of a row", -1, (w, k) -> w.keep(3, 1, k), 3, -1);
        WhichDay x = some();
        for (int k = 0; k < 3; k++) due("traveller " + k, 0, x.keep(k, 1, k));
    }

    private static void itItself() {
        says("SHELVES each hold .. a TRAVELLER (it itself)");
        WhichDay x = with("p0 0 1;", SHIP, 0, 0);
        x.keep(0, 1, 0);
        x.keep(7, 1, 0);
        due("without legs", 11, x.weight(0));
        x.leg(0, 0, true, 0, 1);
        due("with a leg", 12, x.weight(0));
        x.captain(0, 0, 1);
        due("with a change", 13, x.weight(0));
        due("on another shelf, too", 13, x.weight(7));
    }

    private static void stillThere() {
        says("The ROW that is read, and what is taken from a SHELF, stay there");
        WhichDay x = some();
        long[] before = look(x);
        x.judge(0, 4, 0, 1);
        x.kept(0, 4, 0);
        x.plan(0, 4, 0);
        x.log(0, 3);
        x.weight(1);
        x.toss(1);
        x.copy(3, 0, 3, 0, 4);
        x.element(4, 0);
        long[] after = look(x);
        for (int i = 0; i < before.length; i++) due("row " + i + " of the look", before[i], after[i]);
    }

    private static void rowAnew() {
        says("Promise 36: SHELF d gets a ROW: 0 elements at first, also where one was");
        WhichDay x = some();
        row(x, 0, INTS, 7, 8, 9);
        due("anew", 0, x.row(0, INTS, 3));
        for (int i = 0; i < 3; i++) due("element " + i, 0, x.element(0, i));
        row(x, 0, INTS, 7, 8, 9);
        due("shorter", 0, x.row(0, SHORTS, 2));
        due("its size", STATE, element(x, 0, 2));
        due("longer", 0, x.row(0, INTS, 4));
        for (int i = 0; i < 4; i++) due("element " + i, 0, x.element(0, i));
        due("in place of a traveller", 0, x.row(1, BYTES, 0));
        due("no traveller", -12, x.weight(1));
    }

    private static void putPlaces() {
        says("Promise 37: Element i of the ROW becomes v. -1, -11, -12, -13");
        WhichDay x = some();
        due("the first", 0, x.put(3, 0, 70));
        due("the last", 0, x.put(3, 3, 73));
        long[] want = {70, 5, 6, 73};
        for (int i = 0; i < 4; i++) due("element " + i, want[i], x.element(3, i));
        refusedFor(SOME, "put", -13, (w, i) -> w.put(3, i, 9), -1, 4, MIN, MAX);
        refusedFor(SOME, "put in a row of none", -13, (w, i) -> w.put(5, i, 9), -1, 0);
        refused(SOME, "put where nothing is", -11, w -> w.put(0, 0, 9));
        refused(SOME, "put where a traveller is", -12, w -> w.put(1, 0, 9));
    }

    private static void elementThrows() {
        says("Promise 38: IllegalArgumentException: no such SHELF; IllegalStateException: no ROW, no such place");
        WhichDay x = some();
        due("the first", 4, element(x, 3, 0));
        due("the last", 7, element(x, 3, 3));
        refusedFor(SOME, "element", STATE, (w, i) -> element(w, 3, i), -1, 4, MIN, MAX);
        refusedFor(SOME, "element of none", STATE, (w, i) -> element(w, 5, i), -1, 0);
        refused(SOME, "element of nothing", STATE, w -> element(w, 0, 0));
        refused(SOME, "element of a traveller", STATE, w -> element(w, 1, 0));
        refused(SOME, "element of no shelf, of no place", ARGUMENT, w -> element(w, 8, -1));
        refused(SOME, "element of no shelf, of no place", ARGUMENT, w -> element(w, -1, -1));
    }

    private static void copySpans() {
        says("Promise 39: -13 (n below 0, too; n 0 at the end is well)");
        // shelf 3: 4 5 6 7, shelf 0: 1 2 3
        Recipe r = () -> row(some(), 0, SHORTS, 1, 2, 3);
        int[][] well = {{0, 0, 0}, {4, 3, 0}, {4, 0, 0}, {0, 3, 0}, {0, 0, 3}, {1, 0, 3}, {3, 2, 1}, {2, 1, 2}};
        for (int[] c : well) {
            WhichDay x = r.make();
            due("copy from " + c[0] + " to " + c[1] + " of " + c[2], c[2], x.copy(3, c[0], 0, c[1], c[2]));
            for (int i = 0; i < 3; i++) {
                boolean copied = i >= c[1] && i < c[1] + c[2];
                due("element " + i, copied ? 4 + c[0] + i - c[1] : 1 + i, x.element(0, i));
            }
            for (int i = 0; i < 4; i++) due("where it came from " + i, 4 + i, x.element(3, i));
        }
        int[][] no = {{5, 0, 0}, {0, 4, 0}, {4, 0, 1}, {0, 3, 1}, {0, 0, 4}, {2, 0, 3}, {0, 1, 3}, {-1, 0, 1}, {0, -1, 1}, {-1, 0, 0},
            {0, -1, 0}, {0, 0, -1}, {0, 0, MIN}, {0, 0, MAX}, {1, 0, MAX}, {0, 1, MAX}, {MAX, 0, 1}, {0, MAX, 1}, {MIN, 0, 1}, {0, MIN, 1},
            {MAX, MAX, MAX}, {MIN, MIN, MIN}, {4, 3, -1}};
        for (int[] c : no) refused(r, "copy from " + c[0] + " to " + c[1] + " of " + c[2], -13, w -> w.copy(3, c[0], 0, c[1], c[2]));
        WhichDay none = some();
        due("none of a row of none", 0, none.copy(5, 0, 5, 0, 0));
        due("one of a row of none", -13, none.copy(5, 0, 5, 0, 1));
    }

    private static void copyOverlaps() {
        says("Promise 39: n elements of the ROW in SHELF d .. come to that in SHELF e (which may be the same)");
        long[][] want = {{4, 4, 5, 6}, {5, 6, 7, 7}, {4, 5, 6, 7}};
        int[][] calls = {{0, 1, 3}, {1, 0, 3}, {0, 0, 4}};
        for (int c = 0; c < 3; c++) {
            WhichDay x = some();
            due("copy", calls[c][2], x.copy(3, calls[c][0], 3, calls[c][1], calls[c][2]));
            for (int i = 0; i < 4; i++) due("element " + i, want[c][i], x.element(3, i));
        }
        WhichDay x = some();
        x.row(0, SHORTS, 100);
        x.row(1, SHORTS, 100);
        x.put(0, 99, 77);
        due("a hundred", 100, x.copy(0, 0, 1, 0, 100));
        due("the hundredth", 77, x.element(1, 99));
    }

    private static void copySorts() {
        says("Promise 39: -11 (either), -12 (no ROWS of one SORT)");
        refused(SOME, "from nothing", -11, w -> w.copy(0, 0, 3, 0, 1));
        refused(SOME, "to nothing", -11, w -> w.copy(3, 0, 0, 0, 1));
        refused(SOME, "from nothing to itself", -11, w -> w.copy(0, 0, 0, 0, 0));
        refused(SOME, "from a traveller", -12, w -> w.copy(1, 0, 3, 0, 1));
        refused(SOME, "to a traveller", -12, w -> w.copy(3, 0, 1, 0, 1));
        refused(SOME, "from a traveller to itself", -12, w -> w.copy(1, 0, 1, 0, 0));
        refused(SOME, "from bytes to shorts", -12, w -> w.copy(2, 0, 3, 0, 1));
        refused(SOME, "from shorts to ints", -12, w -> w.copy(3, 0, 4, 0, 1));
        refused(SOME, "from ints to bytes", -12, w -> w.copy(4, 0, 2, 0, 1));
        refused(SOME, "none, of two sorts", -12, w -> w.copy(4, 0, 2, 0, 0));
        Recipe was = () -> {
            WhichDay x = row(some(), 0, SHORTS, 1, 2);
            x.keep(0, 1, 0);
            return x;
        };
        refused(was, "from a traveller where a row of that sort was", -12, w -> w.copy(0, 0, 3, 0, 1));
        refused(was, "to a traveller where a row of that sort was", -12, w -> w.copy(3, 0, 0, 0, 1));
        Recipe gone = () -> {
            WhichDay x = row(some(), 0, SHORTS, 1, 2);
            x.keep(0, 0, 0);
            return x;
        };
        refused(gone, "from nothing where a row of that sort was", -11, w -> w.copy(0, 0, 3, 0, 1));
        refused(gone, "to nothing where a row of that sort was", -11, w -> w.copy(3, 0, 0, 0, 1));
    }

    private static void weightOf() {
        says("Promise 40: WEIGHT of the TRAVELLER on SHELF d. -1, -11, -12 (a ROW)");
        due("a ship's", 14, some().weight(1));
        due("a COUNT's", 12, some().weight(6));
        refused(SOME, "of nothing", -11, w -> w.weight(0));
        for (int d : new int[] {2, 3, 4, 5, 7}) refused(SOME, "of a row", -12, w -> w.weight(d));
    }

    private static void tossNumbers() {
        says("Promise 41: its number; of SHIPS 100 more; of SETTLED ones 200 and STAY in place of all that");
        int[] kinds = {COUNT, OWN, PLACE, SHIP, TURN, SETTLED};
        for (int kind : kinds)
            for (int number : new int[] {0, 7})
                for (int stay : new int[] {0, 30}) {
                    WhichDay x = with("p0 0 1;");
                    for (int k = 0; k < 8; k++) x.traveller(kind, 0, stay);
                    x.leg(number, 0, true, 0, 1);
                    x.keep(0, 1, number);
                    due("of kind " + kind, kind == SETTLED ? 200 + stay : kind == SHIP ? 100 + number : number, x.toss(0));
                }
    }

    private static void tossNone() {
        says("Promise 41: -15: HOME and STRICT ones, and any without LEGS, have none");
        for (int kind = 0; kind < 8; kind++) {
            int one = kind;
            Recipe without = () -> {
                WhichDay x = with("p0 0 1;", one, 0, 5);
                x.keep(0, 1, 0);
                return x;
            };
            refused(without, "of kind " + kind + " without legs", -15, w -> w.toss(0));
            Recipe with = () -> {
                WhichDay x = without.make();
                x.leg(0, 0, true, 0, 1);
                return x;
            };
            if (kind == HOME || kind == STRICT) refused(with, "of kind " + kind, -15, w -> w.toss(0));
            else due("of kind " + kind, kind == SETTLED ? 205 : kind == SHIP ? 100 : 0, with.make().toss(0));
        }
    }

    private static void nothingHeld() {
        says("-11 nothing is held where something is wanted");
        refused(SOME, "world", -11, w -> w.world(0));
        refused(SOME, "judge", -11, w -> w.judge(0, 0, 0, 1));
        refused(SOME, "kept", -11, w -> w.kept(0, 0, 0));
        refused(SOME, "log", -11, w -> w.log(0, 0));
        refused(SOME, "plan", -11, w -> w.plan(0, 0, 0));
        refused(SOME, "put", -11, w -> w.put(0, 0, 0));
        refused(SOME, "weight", -11, w -> w.weight(0));
        refused(SOME, "toss", -11, w -> w.toss(0));
        WhichDay x = some();
        x.keep(3, 0, 0);
        due("where a row was", -11, x.log(0, 3));
        x.keep(1, 0, 0);
        due("where a traveller was", -11, x.toss(1));
    }

    private static void ofAnotherKind() {
        says("-12 it is of another kind");
        for (int d : new int[] {1, 6}) {
            refused(SOME, "world by a traveller", -12, w -> w.world(d));
            refused(SOME, "judge by a traveller", -12, w -> w.judge(0, d, 0, 1));
            refused(SOME, "kept by a traveller", -12, w -> w.kept(0, d, 0));
            refused(SOME, "log by a traveller", -12, w -> w.log(0, d));
            refused(SOME, "plan by a traveller", -12, w -> w.plan(0, d, 0));
            refused(SOME, "put in a traveller", -12, w -> w.put(d, 0, 0));
        }
        for (int d : new int[] {2, 3}) {
            refused(SOME, "kept by no ints", -12, w -> w.kept(0, d, 0));
            refused(SOME, "plan by no ints", -12, w -> w.plan(0, d, 0));
        }
        for (int d : new int[] {2, 3, 4, 5, 7}) refused(SOME, "toss of a row", -12, w -> w.toss(d));
        WhichDay x = some();
        row(x, 2, BYTES, 9);
        due("judge by bytes", 0, x.judge(0, 2, 0, 1));
        row(x, 2, BYTES, 0, 120);
        due("log by bytes", 0, x.log(0, 2));
        due("kept by ints", -4, x.kept(0, 5, 0));
    }

    // ---- the order of several refusals

    private static void orderOfNoSuchAndNoRoom() {
        says("Answers of several refusals are the first one here: -1 ahead of -2");
        refused(FULL, "a ninth traveller of no kind", -1, w -> w.traveller(8, 0, 0));
        refused(FULL, "a ninth traveller of no home", -1, w -> w.traveller(0, 10, 0));
        refused(FULL, "a ninth traveller with no stay", -1, w -> w.traveller(0, 0, 31));
        refused(FULL, "a ninth traveller", -2, w -> w.traveller(0, 0, 30));
        refused(FULL, "a seventh leg to no place", -1, w -> w.leg(0, 10, true, 9000, 1));
        refused(FULL, "a seventh leg from no minute", -1, w -> w.leg(0, 0, true, LAST + 1, 1));
        refused(FULL, "a seventh leg of no hours", -1, w -> w.leg(0, 0, true, 9000, 0));
        refused(FULL, "a ninth change for no minute", -1, w -> w.captain(0, -1, 1));
        refused(FULL, "a ninth change by 0", -1, w -> w.captain(0, 0, 0));
        refused(FULL, "a ninth change", -2, w -> w.captain(0, 0, -1));
    }

    private static void orderOfNoRoomAndAsThingsStand() {
        says("Answers of several refusals are the first one here: -1, -2 ahead of -3");
        refused(FULL, "a seventh leg ahead of the end", -2, w -> w.leg(0, 0, true, 869, 1));
        refused(FULL, "a seventh leg ahead of the end, of no hours", -1, w -> w.leg(0, 0, true, 869, 201));
        refused(SOME, "a leg ahead of the end", -3, w -> w.leg(0, 0, true, 1599, 1));
        refused(SOME, "a leg ahead of the end to no place", -1, w -> w.leg(0, 3, true, 1599, 1));
        refused(SOME, "a leg ahead of the end of no hours", -1, w -> w.leg(0, 0, true, 1599, 0));
        refused(SOME, "a leg from no minute", -1, w -> w.leg(0, 0, true, -1, 1));
        refused(SOME, "a change of no ship", -3, w -> w.captain(0, 0, 1));
        refused(SOME, "a change of no ship by 2", -1, w -> w.captain(0, 0, 2));
        refused(SOME, "a change of no ship for no minute", -1, w -> w.captain(0, LAST + 1, 1));
    }

    private static void orderOnShelves() {
        says("Answers of several refusals are the first one here: -1 ahead of -11, -12, -13, -14, -15");
        refused(SOME, "judge of no traveller by nothing", -1, w -> w.judge(3, 0, 0, 1));
        refused(SOME, "judge from no minute by nothing", -1, w -> w.judge(0, 0, -1, 1));
        refused(SOME, "judge of no step by nothing", -1, w -> w.judge(0, 0, 0, 0));
        refused(SOME, "judge of no traveller by a traveller", -1, w -> w.judge(3, 1, 0, 1));
        refused(SOME, "judge of no step by a traveller", -1, w -> w.judge(0, 1, 0, 10000));
        refused(SOME, "judge from the last minute by nothing", -11, w -> w.judge(0, 0, LAST, 9999));
        refused(SOME, "judge from the last minute by a traveller", -12, w -> w.judge(0, 1, LAST, 9999));
        refused(SOME, "kept of no traveller by nothing", -1, w -> w.kept(3, 0, 0));
        refused(SOME, "kept with no rest by nothing", -1, w -> w.kept(0, 0, 7));
        refused(SOME, "kept with no rest by shorts", -1, w -> w.kept(0, 3, -1));
        refused(SOME, "plan of no traveller by nothing", -1, w -> w.plan(3, 0, 0));
        refused(SOME, "plan with no rest by a traveller", -1, w -> w.plan(0, 1, 7));
        refused(SOME, "log of no traveller by nothing", -1, w -> w.log(3, 0));
        refused(SOME, "log of no traveller by an odd row", -1, w -> w.log(-1, 2));
        refused(SOME, "a row of no sort below 0", -1, w -> w.row(3, 3, -1));
        refused(SOME, "a row of no sort below 0", -1, w -> w.row(3, -1, MIN));
        refused(SOME, "a row on no shelf below 0", -1, w -> w.row(8, 0, -1));
        refused(SOME, "a row below 0", -14, w -> w.row(3, 2, -1));
        refused(SOME, "put on no shelf at no place", -1, w -> w.put(8, -1, 0));
    }

    private static void orderOfCopy() {
        says("Answers of several refusals are the first one here: of copy() -1, -11, -12, -13");
        refused(SOME, "from no shelf to nothing", -1, w -> w.copy(8, 0, 0, 0, 1));
        refused(SOME, "from nothing to no shelf", -1, w -> w.copy(0, 0, -1, 0, 1));
        refused(SOME, "from a traveller to no shelf", -1, w -> w.copy(1, 0, 8, 0, -1));
        refused(SOME, "from a traveller to nothing", -11, w -> w.copy(1, 0, 0, 0, 1));
        refused(SOME, "from nothing to a traveller", -11, w -> w.copy(0, 0, 1, 0, 1));
        refused(SOME, "from nothing, below 0", -11, w -> w.copy(0, -1, 3, 0, -1));
        refused(SOME, "to nothing, below 0", -11, w -> w.copy(3, 0, 0, -1, -1));
        refused(SOME, "of two sorts, below 0", -12, w -> w.copy(3, 0, 4, 0, -1));
        refused(SOME, "of two sorts, at no place", -12, w -> w.copy(3, 9, 4, 9, 1));
        refused(SOME, "from a traveller, below 0", -12, w -> w.copy(1, 0, 4, 0, -1));
    }

    private static void orderInRows() {
        says("Answers of several refusals are the first one here: -12 ahead of -13");
        Recipe shorts = () -> row(some(), 0, SHORTS, -1, 20000);
        refused(shorts, "kept by shorts that are no minutes", -12, w -> w.kept(0, 0, 0));
        refused(shorts, "plan by shorts that are no minutes", -12, w -> w.plan(0, 0, 0));
        refused(SOME, "put in a traveller at no place", -12, w -> w.put(1, -1, 0));
        refused(SOME, "put in nothing at no place", -11, w -> w.put(0, -1, 0));
        Recipe wrong = () -> row(some(), 0, INTS, 99, 99);
        refused(wrong, "judge by one wrong, and one beyond the last minute", -1, w -> w.judge(0, 0, LAST, 1));
        Recipe broken = () -> row(some(), 0, INTS, 101, 1001, LAST + 1);
        for (int rest = 0; rest < 7; rest++) {
            int day = rest;
            refused(broken, "kept by no minute behind others", -13, w -> w.kept(0, 0, day));
            refused(broken, "plan by no minute behind others", -13, w -> w.plan(0, 0, day));
        }
    }

    private static void noneChangesNothing() {
        says("A refused call changes nothing: -4 none");
        refused(SOME, "under way", -4, w -> w.in(0, 101));
        refused(SOME, "begins", -4, w -> w.begins(0, LAST));
        refused(SOME, "longDay", -4, w -> w.longDay(0, LAST));
        refused(SOME, "duty", -4, w -> w.duty(0, LAST, 1));
        refused(SOME, "agree", -4, w -> w.agree(0, 1, LAST));
        refused(SOME, "part", -4, w -> w.part(0, OWN, SHIP, 0));
        refused(SOME, "judge", -4, w -> w.judge(0, 5, 0, 1));
        refused(SOME, "kept", -4, w -> w.kept(0, 4, 6));
        // at 101 of 60 minutes it is day 0 on both ways
        refused(SOME, "plan", -4, w -> w.plan(0, 4, 0));
    }

    private static final int[] EDGES = {0, -1, 1, 2, 3, 7, 8, 10, 100, 101, LAST, LAST + 1, MIN, MAX};

    private static void nothingElseThrown() {
        says("A call throws what and where the document says, and nothing else");
        for (Method m : WhichDay.class.getDeclaredMethods()) {
            if (!Modifier.isPublic(m.getModifiers())) continue;
            int n = m.getParameterCount();
            // fewer edges where there are more numbers, so that all ways to have them stay within bounds
            int edges = n < 4 ? EDGES.length : n == 4 ? 9 : 7;
            int ways = 1;
            for (int i = 0; i < n; i++) ways *= edges;
            for (Recipe r : new Recipe[] {SOME, FULL, FRESH}) {
                WhichDay x = null;
                int thrown = 0;
                for (int way = 0; way < ways; way++) {
                    if (way % 300 == 0) x = r.make();
                    thrown += wildCall(x, m, way, edges);
                }
                due(ways + " calls of " + m.getName() + " that threw", 0, thrown);
            }
        }
    }

    /** How many exceptions came that the document doesn't tell. */
    private static int wildCall(WhichDay x, Method m, int way, int edges) {
        Object[] numbers = new Object[m.getParameterCount()];
        int rest = way;
        for (int i = 0; i < numbers.length; i++) {
            int edge = rest % edges;
            rest /= edges;
            // with few edges the last ones are those far off
            int v = EDGES[edge < edges - 2 ? edge : EDGES.length - edges + edge];
            if (m.getParameterTypes()[i] == boolean.class) numbers[i] = v % 2 == 0;
            else numbers[i] = v;
        }
        try {
            m.invoke(x, numbers);
            return 0;
        } catch (InvocationTargetException e) {
            boolean told = m.getName().equals("element") && (e.getCause().getClass() == IllegalArgumentException.class
                    || e.getCause().getClass() == IllegalStateException.class);
            if (!told) System.out.println(m.getName() + Arrays.toString(numbers) + " threw " + e.getCause());
            return told ? 0 : 1;
        } catch (IllegalAccessException e) {
            System.out.println(m.getName() + " can't be called");
            return 1;
        }
    }

    private static void thousandMillionsLess() {
        says("where numbers that may be below 0 are answered, 1000000000 less; of longs 4000000000000000000 less");
        WhichDay x = some();
        long[] got = {x.place(9, 0), x.choose(9, 0), x.dayOf(9, 0), x.day(9, 0), x.dayBy(9, 0, 0), x.gain(9, 0, 0), x.differ(9, 0, 0),
            x.rounds(9, 0)};
        for (int i = 0; i < got.length; i++) due("call " + i, -1000000001, got[i]);
        due("where", -4000000000000000001L, x.where(9, 0, 0));
        due("where below", BAD_LONG, x.where(9, 0, 1));
        long[] plain = {x.trade(9, 0), x.line(360), x.hourOf(9, 0), x.in(9, 0), x.begins(9, 0), x.longDay(9, 0), x.often(9, 0, 0),
            x.duty(9, 0, 0), x.agree(9, 0, 0), x.part(9, 0, 1, 0), x.wrong(360, 0), x.bestLine(-1, 0), x.moved(360, 0), x.judge(9, 3, 0, 1),
            x.kept(9, 4, 0), x.log(9, 3), x.plan(9, 4, 0), x.count(9)};
        for (int i = 0; i < plain.length; i++) due("plain call " + i, -1, plain[i]);
    }
}
