import java.lang.management.ManagementFactory;

/**
 * All calls of one run live in one room: what a call makes is measured in bytes.
 * An int is 4 of them and an object's head 12 to 16, so that 512 of the dearest
 * calls stay far below the room's 600,000 objects and 7.3 million elements.
 */
public final class RoomTest {
    /** Of each call so many are made, so that what the machine itself makes at times doesn't count. */
    private static final int TIMES = 100;
    private static final int NEW_OBJECT = 10_000;
    private static final int NEW_TRAVELLER = 400;
    private static final int FAILURE = 1_000;

    private static final com.sun.management.ThreadMXBean BEAN =
            (com.sun.management.ThreadMXBean) ManagementFactory.getThreadMXBean();
    private static int checks = 0;
    private static int wrong = 0;

    interface Call {
        long on(WhichDay x);
    }

    interface Recipe {
        WhichDay make();
    }

    public static void main(String[] args) {
        atMost("new WhichDay()", NEW_OBJECT, x -> new WhichDay().count(0));
        worlds();
        days();
        rows();
        images();
        System.out.println(checks + " calls measured, " + wrong + " of them make too much");
        if (wrong != 0) System.exit(1);
    }

    private static void atMost(String what, long bytes, Call call) {
        atMost(RoomTest::full, what, bytes, call);
    }

    private static void atMost(Recipe recipe, String what, long bytes, Call call) {
        checks++;
        // the first time the machine makes something of its own, too
        long made = Math.min(bytesOf(recipe, call), bytesOf(recipe, call));
        if (made > bytes) {
            wrong++;
            System.out.println(what + " makes " + made + " bytes, at most " + bytes + " is well");
        }
    }

    /** On each object some calls only: it is good for no more than 512. */
    private static long bytesOf(Recipe recipe, Call call) {
        WhichDay x = recipe.make();
        long before = BEAN.getThreadAllocatedBytes(Thread.currentThread().getId());
        for (int i = 0; i < TIMES; i++) call.on(x);
        return (BEAN.getThreadAllocatedBytes(Thread.currentThread().getId()) - before) / TIMES;
    }

    private static void worlds() {
        atMost("world", 10, x -> x.world(0));
        atMost("place", 10, x -> x.place(3, 2));
        atMost("trade", 10, x -> x.trade(3, 2));
        atMost("choose", 10, x -> x.choose(3, 1));
        atMost("line", 10, x -> x.line(77));
        atMost("dayOf", 10, x -> x.dayOf(3, 5555));
        atMost("hourOf", 10, x -> x.hourOf(3, 5555));
        atMost("wrong", 10, x -> x.wrong(33, 5555));
        atMost("bestLine", 10, x -> x.bestLine(5555, 1));
        atMost("moved", 10, x -> x.moved(33, 5555));
        atMost("count", 10, x -> x.count(5));
    }

    private static void days() {
        atMost("traveller, refused", 10, x -> x.traveller(1, 1, 1));
        atMost("leg, refused", 10, x -> x.leg(0, 1, true, 19999, 1));
        atMost("captain, refused", 10, x -> x.captain(4, 1, 1));
        atMost(RoomTest::places, "traveller, leg and captain, behind a restore", NEW_TRAVELLER,
                x -> x.restore() + x.traveller(4, 1, 1) + x.leg(0, 2, true, 0, 1) + x.captain(0, 1, 1));
        atMost("where", 10, x -> x.where(5, 777, 1));
        atMost("in", 10, x -> x.in(5, 777));
        atMost("day", 10, x -> x.day(6, 777));
        atMost("dayBy", 10, x -> x.dayBy(6, 5, 777));
        atMost("gain", 10, x -> x.gain(6, 5, 777));
        atMost("begins", 10, x -> x.begins(5, 777));
        atMost("longDay", 10, x -> x.longDay(5, 19999));
        atMost("often", 10, x -> x.often(5, 3, 19999));
        atMost("duty", 10, x -> x.duty(5, 0, 10));
        atMost("differ", 10, x -> x.differ(5, 6, 777));
        atMost("agree", 10, x -> x.agree(5, 7, 777));
        atMost("part", 10, x -> x.part(5, 1, 6, 777));
        atMost("rounds", 10, x -> x.rounds(5, 777));
    }

    private static void rows() {
        atMost("judge", 10, x -> x.judge(5, 2, 0, 100));
        atMost("kept", 10, x -> x.kept(5, 2, 3));
        atMost("log", 10, x -> x.log(5, 2));
        atMost("plan", 10, x -> x.plan(5, 2, 3));
        atMost("keep", 10, x -> x.keep(3, 1, 3));
        atMost("row", 10, x -> x.row(3, 2, 100));
        atMost("put", 10, x -> x.put(2, 3, 4));
        atMost("element", 10, x -> x.element(2, 3));
        atMost("copy", 10, x -> x.copy(2, 0, 2, 1, 99));
        atMost("weight", 10, x -> x.weight(4));
        atMost("toss", FAILURE, x -> x.toss(4));
    }

    private static void images() {
        atMost("image", 10 + 8 * NEW_TRAVELLER / TIMES, WhichDay::image);
        atMost("restore", 8 * NEW_TRAVELLER, x -> {
            x.image();
            return x.restore();
        });
    }

    /** Ten places, and an image of them. */
    private static WhichDay places() {
        WhichDay x = new WhichDay();
        for (int part = 0; part < 2; part++) {
            String text = part == 0 ? "p0 0 1;p40 1 2+;p80 2 3;p120 0 4;p160 1 5;" : "p200 2 6-;p240 0 7;p280 1 8;p320 2 9;p359 0 10;";
            x.row(0, 0, text.length());
            for (int i = 0; i < text.length(); i++) x.put(0, i, text.charAt(i));
            x.world(0);
        }
        x.image();
        return x;
    }

    /** Eight travellers of all kinds with six legs each, a ship's eight changes; a row and the ship on shelves. */
    private static WhichDay full() {
        WhichDay x = places();
        for (int k = 0; k < 8; k++) x.traveller(k, k, 1);
        for (int k = 0; k < 8; k++) {
            for (int leg = 0; leg < 6; leg++) x.leg(k, (3 * leg + k) % 10, leg % 2 == 0, 3000 * leg, 1 + 7 * leg);
        }
        for (int i = 0; i < 8; i++) x.captain(4, 2000 * i, 1 - i % 2 * 2);
        x.row(2, 2, 100);
        x.keep(4, 1, 4);
        return x;
    }
}
