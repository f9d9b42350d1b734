/**
 * The document's part 2, A WORLD: each sentence there that names a boundary
 * case has a test of its own, on the boundary, just inside it and outside it.
 */
public final class WorldTest extends Bench {
    private static final String DIGITS = "0123456789";

    public static void main(String[] args) {
        statements();
        semicolons();
        goesOn();
        goesOnInNumbers();
        endsTooEarly();
        numbersOfDigits();
        noNoughtAhead();
        atLeastOne();
        longestText();
        degreeOutOfRange();
        ruleOutOfRange();
        howMuchOutOfRange();
        perhapsAChoice();
        placeThatIsntThere();
        oneTwice();
        noRoom();
        kindOneAheadOfKindTwo();
        firstOfSeveralFaults();
        oneBehindTheOther();
        lastTradeCounts();
        comesToWhatThereIs();
        withAFaultNothing();
        rowStays();
        notARowOfBytes();
        finish();
    }

    /** What a new object answers to a text. */
    private static int read(String s) {
        return read(new WhichDay(), s);
    }

    /** A text with a fault, on objects that have nothing, something, all: the answer, and nothing else is another one. */
    private static void fault(int want, String s) {
        Recipe fresh = () -> {
            WhichDay x = new WhichDay();
            text(x, 0, s);
            return x;
        };
        Recipe some = () -> {
            WhichDay x = some();
            text(x, 0, s);
            return x;
        };
        refused(fresh, "\"" + s + "\"", want, x -> x.world(0));
        if (want > -2000) refused(some, "\"" + s + "\" where something is", want, x -> x.world(0));
    }

    // ---- the form

    private static void statements() {
        says("p and DEGREE, a blank, RULE, a blank, PEOPLE, then perhaps + or -; l and a DEGREE; w and two PLACES, HOW MUCH");
        due("a place", 1, read("p0 0 0;"));
        due("a place that chose", 1, read("p0 0 0+;"));
        due("a place that chose", 1, read("p0 0 0-;"));
        due("a line", 1, read("l0;"));
        due("two that trade", 3, read("p0 0 0;p0 0 0;w0 1 0;"));
        due("two that trade", 3, read("p0 0 0;p0 0 0;w1 0 99;"));
        fault(-1000, "P0 0 0;");
        fault(-1000, "L0;");
        fault(-1000, "x0;");
        fault(-1000, " p0 0 0;");
        fault(-1001, "p 0 0 0;");
        fault(-1001, "l 0;");
    }

    private static void semicolons() {
        says("STATEMENTS, each with ; behind");
        fault(-1002, "l0");
        fault(-1006, "p0 0 0");
        fault(-1007, "p0 0 0+");
        fault(-1006, "w0 1 0");
        fault(-1005, "l0;l1");
        fault(-1002, "l0l1;");
        fault(-1006, "p0 0 0l1;");
        fault(-1000, ";");
        fault(-1003, "l0;;");
        fault(-1003, "l0; l1;");
        fault(-1003, "l0;\n");
    }

    /** Behind what is ahead, any byte of the 256: only those told can go on. */
    private static void anyByte(String ahead, String canGoOn, int ifClosed) {
        for (int b = 0; b < 256; b++) {
            String s = ahead + (char) b;
            boolean can = canGoOn.indexOf(b) >= 0;
            int want = !can ? -1000 - ahead.length() : b == ';' ? ifClosed : -1000 - s.length();
            due("\"" + ahead + "\" and byte " + b, want, read(s));
            if (!can) due("\"" + ahead + "\" and byte " + b + " and more", want, read(s + "l0;"));
        }
    }

    private static void goesOn() {
        says("FAULT: kind 1 the place of the first byte with which no WORLD can go on");
        anyByte("", "plw", 0);
        anyByte("p", DIGITS, 0);
        anyByte("p1", DIGITS + " ", 0);
        anyByte("p10", DIGITS + " ", 0);
        anyByte("p10 ", DIGITS, 0);
        anyByte("p10 2", DIGITS + " ", 0);
        anyByte("p10 2 ", DIGITS, 0);
        anyByte("p10 2 3", DIGITS + ";+-", 1);
        anyByte("p10 2 30", DIGITS + ";+-", 1);
        anyByte("p10 2 300", ";+-", 1);
        anyByte("p10 2 300+", ";", 1);
        anyByte("p10 2 300-", ";", 1);
        anyByte("p10 2 300+;", "plw", 0);
        anyByte("p10 2 300+;l", DIGITS, 0);
        anyByte("p10 2 300+;l7", DIGITS + ";", 2);
        anyByte("p10 2 300+;l7;", "plw", 0);
        anyByte("p10 2 300+;l7;w", DIGITS, 0);
        anyByte("p10 2 300+;l7;w1 ", DIGITS, 0);
        anyByte("p10 2 300+;l7;w1 2", DIGITS + " ", 0);
        anyByte("p10 2 300+;l7;w1 2 ", DIGITS, 0);
        anyByte("p10 2 300+;l7;w1 2 5", DIGITS + ";", -2014);
    }

    private static void goesOnInNumbers() {
        says("NUMBERS have 1 to 3 digits, no 0 ahead of another: where a number ends");
        anyByte("p0", " ", 0);
        anyByte("p0 0", " ", 0);
        anyByte("p0 0 0", ";+-", 1);
        anyByte("p359", " ", 0);
        anyByte("p359 100", " ", 0);
        anyByte("l0", ";", 1);
        anyByte("l35", DIGITS + ";", 1);
        anyByte("l359", ";", 1);
        anyByte("w0", " ", 0);
        anyByte("w10", DIGITS + " ", 0);
        anyByte("w100", " ", 0);
        anyByte("w0 0", " ", 0);
        anyByte("w0 0 0", ";", -2000);
        anyByte("w0 1 99", DIGITS + ";", -2000);
        anyByte("w0 1 999", ";", -2000);
    }

    private static void endsTooEarly() {
        says("(the size, if it ends too early)");
        String whole = "p10 2 300+;l7;p0 0 1;w0 1 5;";
        for (int n = 0; n <= whole.length(); n++) {
            String s = whole.substring(0, n);
            int statements = n - s.replace(";", "").length();
            due("\"" + s + "\"", s.endsWith(";") ? statements : -1000 - n, read(s));
        }
        fault(-1000, "");
        fault(-1001, "p");
        fault(-1001, "w");
        fault(-1004, "l0;l");
    }

    private static void numbersOfDigits() {
        says("NUMBERS have 1 to 3 digits");
        due("one digit", 1, read("l9;"));
        due("two digits", 1, read("l10;"));
        due("three digits", 1, read("l100;"));
        fault(-1004, "l1000;");
        fault(-1001, "l;");
        fault(-1004, "p1000 0 1;");
        fault(-1006, "p0 1000 1;");
        fault(-1008, "p0 0 1000;");
        fault(-1001, "p 0 1;");
        fault(-1003, "p0  1;");
        fault(-1005, "p0 0 ;");
        fault(-1005, "p0 0 +;");
        fault(-1004, "w1000 0 1;");
        fault(-1008, "w0 1 1000;");
        fault(-1001, "l-1;");
        fault(-1001, "l+1;");
    }

    private static void noNoughtAhead() {
        says("NUMBERS have .. no 0 ahead of another");
        due("0 alone", 1, read("l0;"));
        due("0 behind another", 1, read("l10;"));
        due("0 behind others", 1, read("l300;"));
        fault(-1002, "l00;");
        fault(-1002, "l01;");
        fault(-1002, "l001;");
        fault(-1002, "p00 0 0;");
        fault(-1004, "p0 01 0;");
        fault(-1006, "p0 0 09;");
        fault(-1002, "w00 1 5;");
        fault(-1004, "w0 01 5;");
        fault(-1006, "w0 1 05;");
    }

    private static void atLeastOne() {
        says("At least one STATEMENT");
        fault(-1000, "");
        due("one", 1, read("l0;"));
        due("two", 2, read("l0;l1;"));
    }

    private static void longestText() {
        says("a ROW of 100 bytes, filled: the last byte counts, too");
        String lines = "l0;".repeat(32);
        due("100 bytes", 33, read("l10;" + lines));
        due("99 bytes", 33, read(lines + "l0;"));
        fault(-1100, lines + "l0;l");
        fault(-1099, lines + "l0;x");
        fault(-1100, lines + "l100");
        due("the last statement of 100 bytes", -2095, read("l10;l10;" + "l0;".repeat(29) + "l360;"));
        WhichDay x = new WhichDay();
        read(x, "l10;l10;" + "l0;".repeat(29) + "l359;");
        due("the last line told", 359, x.count(3));
    }

    // ---- the sense

    private static void degreeOutOfRange() {
        says("kind 2: a number out of range: DEGREE");
        due("the last degree", 1, read("p359 0 1;"));
        due("the last line", 1, read("l359;"));
        fault(-2000, "p360 0 1;");
        fault(-2000, "p999 0 1;");
        fault(-2000, "l360;");
        fault(-2000, "l999;");
        fault(-2003, "l0;l360;");
        fault(-2003, "l0;p360 0 1;");
    }

    private static void ruleOutOfRange() {
        says("kind 2: a number out of range: RULE");
        due("the last rule", 1, read("p0 2 1;"));
        fault(-2000, "p0 3 1;");
        fault(-2000, "p0 10 1;");
        fault(-2000, "p0 999 1+;");
        fault(-2007, "p0 2 1;p0 3 1;");
    }

    private static void howMuchOutOfRange() {
        says("HOW MUCH (0 .. 99)");
        String two = "p0 0 1;p1 0 1;";
        for (int n : new int[] {0, 1, 98, 99}) {
            WhichDay x = with(two + "w0 1 " + n + ";");
            due("trade", n, x.trade(0, 1));
            due("the other way", n, x.trade(1, 0));
            due("pairs that trade", n == 0 ? 0 : 1, x.count(5));
        }
        fault(-2014, two + "w0 1 100;");
        fault(-2014, two + "w0 1 999;");
        fault(-1022, two + "w0 1 1000;");
    }

    private static void perhapsAChoice() {
        says("then perhaps + or - (CHOICE 1, -1)");
        WhichDay x = with("p0 0 1;p0 0 1+;p0 0 1-;");
        due("none", 0, x.place(0, 2));
        due("+", 1, x.place(1, 2));
        due("-", -1, x.place(2, 2));
        fault(-1007, "p0 0 1++;");
        fault(-1007, "p0 0 1+-;");
        fault(-1007, "p0 0 1-+;");
        fault(-1007, "p0 0 1+1;");
        fault(-1006, "p0 0 1 +;");
        fault(-1002, "l1+;");
        fault(-1006, "w0 1 5+;");
        fault(-1006, "w0 1 5-;");
    }

    private static void placeThatIsntThere() {
        says("kind 2: a PLACE that isn't there ahead of it");
        String two = "p0 0 1;p1 0 1;";
        due("the last place there", 3, read(two + "w1 0 5;"));
        fault(-2014, two + "w2 0 5;");
        fault(-2014, two + "w0 2 5;");
        fault(-2014, two + "w0 999 5;");
        fault(-2000, "w0 1 5;");
        fault(-2000, "w0 1 5;" + two);
        fault(-2007, "p0 0 1;w0 1 5;p1 0 1;");
        Recipe full = () -> {
            WhichDay x = full();
            text(x, 0, "w9 10 5;");
            return x;
        };
        refused(full, "a tenth with an eleventh", -2000, x -> x.world(0));
        WhichDay x = full();
        due("the last two of ten", 1, read(x, "w9 8 5;"));
        due("they trade", 5, x.trade(8, 9));
    }

    private static void oneTwice() {
        says("kind 2: one twice");
        fault(-2007, "p0 0 1;w0 0 5;");
        fault(-2014, "p0 0 1;p1 0 1;w1 1 0;");
        due("two of one degree", 3, read("p0 0 1;p0 0 1;w0 1 5;"));
    }

    private static void noRoom() {
        says("kind 2: no room");
        String place = "p0 0 1;";
        due("nine", 9, read(place.repeat(9)));
        due("ten", 10, read(place.repeat(10)));
        fault(-2070, place.repeat(11));
        WhichDay nine = with(place.repeat(9));
        due("two more than nine", -2007, read(nine, place + place));
        due("still nine", 9, nine.count(0));
        due("one more than nine", 1, read(nine, place));
        due("ten now", 10, nine.count(0));
        Recipe full = () -> {
            WhichDay x = full();
            text(x, 0, "l5;w0 1 7;p0 0 1;l6;");
            return x;
        };
        refused(full, "an eleventh behind others", -2010, x -> x.world(0));
        due("no place more, but others", 2, read(full(), "l5;w0 1 7;"));
    }

    private static void kindOneAheadOfKindTwo() {
        says("kind 1 (of any place) goes ahead of kind 2");
        fault(-1005, "l360;x");
        fault(-1006, "l360;l");
        fault(-1004, "l360");
        fault(-1011, "p999 9 9;l01;");
        fault(-1014, "w0 0 5;w5 5 99x;");
        fault(-1099, "l360;" + "l0;".repeat(31) + "l;");
    }

    private static void firstOfSeveralFaults() {
        says("the place of the letter of the first STATEMENT that isn't as told");
        fault(-2003, "l0;l360;l361;");
        fault(-2000, "p360 3 1;l360;");
        fault(-2006, "l0;l1;w0 1 5;p360 0 1;");
        fault(-1003, "l0;x;y;");
    }

    private static void oneBehindTheOther() {
        says("STATEMENTS are tried one behind the other, each on what those ahead of it made");
        due("a place and its trade", 3, read("p0 0 1;p0 0 1;w0 1 5;"));
        fault(-2007, "p0 0 1;w1 0 5;p0 0 1;");
        WhichDay x = with("p0 0 1;");
        due("with one that was there", 2, read(x, "p9 0 1;w1 0 5;"));
        due("they trade", 5, x.trade(0, 1));
    }

    private static void lastTradeCounts() {
        says("they trade so (of several the last, both ways)");
        WhichDay x = with("p0 0 1;p0 0 1;w0 1 5;w1 0 6;w0 1 7;");
        due("the last", 7, x.trade(0, 1));
        due("both ways", 7, x.trade(1, 0));
        due("one pair", 1, x.count(5));
        read(x, "w1 0 0;");
        due("in another text", 0, x.trade(0, 1));
        due("no pair", 0, x.count(5));
        WhichDay lines = with("l1;l2;l3;");
        due("of lines the last, too", 3, lines.count(3));
    }

    private static void comesToWhatThereIs() {
        says("Without FAULT all of it comes (to what there is)");
        WhichDay x = with("p1 0 1;p2 0 2;w0 1 5;l9;");
        due("a traveller", 0, x.traveller(COUNT, 1, 0));
        due("more", 2, read(x, "p3 2 3-;w2 0 4;"));
        int[] counts = {3, 1, 0, 9, 6, 2};
        for (int what = 0; what < 6; what++) due("count " + what, counts[what], x.count(what));
        due("as it was", 5, x.trade(0, 1));
        due("the third", 3, x.place(2, 0));
        due("its home", 1, x.in(0, 0));
    }

    private static void withAFaultNothing() {
        says("with one nothing");
        // a line, a place, a trade that are well, and then one that isn't
        fault(-2025, "l5;p7 1 8+;p0 0 1;w0 1 5;l999;");
        fault(-2025, "l5;p7 1 8+;p0 0 1;w0 1 5;w1 1 6;");
        Recipe some = () -> {
            WhichDay x = some();
            text(x, 0, "l5;p7 1 8+;w0 3 5;w0 1 6;l360;");
            return x;
        };
        refused(some, "where something is", -2025, x -> x.world(0));
        fault(-1025, "l5;p7 1 8+;p0 0 1;w0 1 5;x");
        fault(-1026, "l5;p7 1 8+;p0 0 1;w0 1 5;l");
    }

    private static void rowStays() {
        says("The ROW that is read stays there");
        WhichDay x = new WhichDay();
        text(x, 4, "l7;");
        for (int i = 0; i < 3; i++) {
            due("read once more", 1, x.world(4));
            due("first", 'l', x.element(4, 0));
            due("second", '7', x.element(4, 1));
            due("third", ';', x.element(4, 2));
            due("no more", Long.MAX_VALUE, element(x, 4, 3));
        }
        x.put(4, 2, 'x');
        due("a fault", -1002, x.world(4));
        due("it stays, too", 'x', x.element(4, 2));
    }

    private static void notARowOfBytes() {
        says("-1, -11, -12 (no ROW of bytes)");
        refused(SOME, "nothing", -11, x -> x.world(0));
        refused(SOME, "a traveller", -12, x -> x.world(1));
        refused(SOME, "shorts", -12, x -> x.world(3));
        refused(SOME, "ints", -12, x -> x.world(4));
        refused(SOME, "no ints", -12, x -> x.world(5));
        refused(SOME, "bytes that are no text", -1000, x -> x.world(2));
        refused(FULL, "a traveller", -12, x -> x.world(7));
        WhichDay x = new WhichDay();
        x.row(0, SHORTS, 3);
        String line = "l7;";
        for (int i = 0; i < 3; i++) x.put(0, i, line.charAt(i));
        due("a text of shorts", -12, x.world(0));
        x.row(0, BYTES, 3);
        for (int i = 0; i < 3; i++) x.put(0, i, line.charAt(i) + 256);
        due("a text by its lowest bits", 1, x.world(0));
    }
}
