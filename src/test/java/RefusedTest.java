import java.util.function.Supplier;

/**
 * Promises 2 to 23: each call that is refused, with the last values that are not. Of several exceptions that apply, the
 * one that the throws clause names first is due; and a call that throws changes nothing, which Check holds by a twin.
 */
public final class RefusedTest {
    private static final int MIN = Integer.MIN_VALUE;
    private static final int MAX = Integer.MAX_VALUE;
    private static final int VALVE = Kickroom.VALVE;
    private static final int CEMENT = Kickroom.CEMENT;

    public static void main(String[] args) {
        promise2LayerIndex();
        promise2LayerArgument();
        promise2LayerState();
        promise3MudArgument();
        promise3MudState();
        promise4DrillArgument();
        promise4DrillBarred();
        promise4DrillTooDeep();
        promise4DrillTooLong();
        promise5PassArgument();
        promise5PassTooLong();
        promise6CloseState();
        promise7OpenState();
        promise8PumpArgument();
        promise8PumpState();
        promise8PumpTooLong();
        promise9CasingArgument();
        promise9CasingState();
        promise10StrengthArgument();
        promise11TestArgument();
        promise11TestState();
        promise11TestSixty();
        promise12StopIndex();
        promise13PressureArgument();
        promise14OfArgument();
        promise17OfTestIndex();
        promise17OfTestArgument();
        promise18KillWeightState();
        promise19WindowArgument();
        promise20CasingsArgument();
        promise21CasingsAnewArgument();
        promise22EquivalentState();
        promise23AheadArgument();
        Check.finish();
    }

    /** So many MINUTES went by, at the depth of 10; the valve's test is new. */
    private static Kickroom aged(int minutes) {
        Kickroom room = Rooms.passAll(Rooms.drilled(10), minutes - 10);
        room.test(VALVE, 1000);
        return room;
    }

    private static void promise2LayerIndex() {
        Check.promise(2, "IndexOutOfBoundsException if there is no such LAYER");
        for (int layer : new int[] {-1, 50, MIN, MAX}) {
            Check.outOfBounds("layer(" + layer + ")", Rooms::busy, r -> r.layer(layer, 110, 170, 20, true));
        }
        Check.outOfBounds("layer(50), pore too large", Rooms::busy, r -> r.layer(50, 301, 170, 20, true));
        Check.outOfBounds("layer(-1), breaks too small", Rooms::busy, r -> r.layer(-1, 110, -1, 20, true));
        Check.outOfBounds("layer(-1), rate too large", Rooms::busy, r -> r.layer(-1, 110, 170, 1001, true));
        Kickroom room = new Kickroom();
        room.layer(0, 111, 171, 20, true);
        room.layer(49, 112, 172, 20, true);
        Check.due("layer(0)", room.window(0, 1, false), 111);
        Check.due("layer(49)", room.window(4999, 5000, false), 112);
    }

    private static void promise2LayerArgument() {
        Check.promise(2, "IllegalArgumentException if pore, breaks or rate is out of range");
        for (int wrong : new int[] {-1, 301, MIN, MAX}) {
            Check.badArgument("pore " + wrong, Rooms::busy, r -> r.layer(2, wrong, 170, 20, false));
            Check.badArgument("breaks " + wrong, Rooms::busy, r -> r.layer(2, 110, wrong, 20, false));
        }
        for (int wrong : new int[] {-1, 1001, MIN, MAX}) {
            Check.badArgument("rate " + wrong, Rooms::busy, r -> r.layer(2, 110, 170, wrong, false));
        }
        Check.badArgument("pore 301, drilled into", Rooms::busy, r -> r.layer(0, 301, 170, 20, true));
        Check.badArgument("breaks -1, drilled into", Rooms::busy, r -> r.layer(0, 110, -1, 20, true));
        Check.badArgument("rate 1001, drilled into", Rooms::busy, r -> r.layer(1, 110, 170, 1001, true));
    }

    private static void promise2LayerState() {
        Check.promise(2, "IllegalStateException if the depth is above the depth at which it begins");
        Check.badState("layer 0 at 1", () -> Rooms.drilled(1), r -> r.layer(0, 90, 170, 999, true));
        Check.badState("layer 0 at 100", () -> Rooms.drilled(100), r -> r.layer(0, 90, 170, 999, true));
        Check.badState("layer 1 at 101", () -> Rooms.drilled(101), r -> r.layer(1, 90, 170, 999, true));
        Check.badState("layer 0 at 101", () -> Rooms.drilled(101), r -> r.layer(0, 90, 170, 999, true));
        Check.badState("layer 49 at 4901", () -> Rooms.drilled(4901), r -> r.layer(49, 90, 170, 999, true));
        Check.badState("layer 49 at 5000", () -> Rooms.drilled(5000), r -> r.layer(49, 90, 170, 999, true));
        allowed(0, 0);
        allowed(1, 99);
        allowed(1, 100);
        allowed(2, 101);
        allowed(49, 4900);
    }

    private static void allowed(int layer, int depth) {
        Kickroom room = Rooms.drilled(depth);
        room.layer(layer, 90, 170, 999, true);
        int at = 100 * layer;
        Check.due("layer " + layer + " at " + depth + ", pore", room.window(at, at + 1, false), 90);
        Check.due("layer " + layer + " at " + depth + ", breaks", room.window(at, at + 1, true), 170);
    }

    private static void promise3MudArgument() {
        Check.promise(3, "IllegalArgumentException if weight is out of range");
        for (int wrong : new int[] {-1, 301, MIN, MAX}) {
            Check.badArgument("mud(" + wrong + ")", Rooms::busy, r -> r.mud(wrong));
        }
        Check.badArgument("mud(-1), CLOSED", Rooms::busyClosed, r -> r.mud(-1));
        Check.badArgument("mud(301), CLOSED", Rooms::busyClosed, r -> r.mud(301));
        Kickroom room = Rooms.busy();
        Check.due("mud(0)", room.mud(0), 110);
        Check.due("mud(300)", room.mud(300), 0);
        Check.due("weight", room.of(2), 300);
    }

    private static void promise3MudState() {
        Check.promise(3, "IllegalStateException if THE WELL is CLOSED");
        Check.badState("mud(120)", Rooms::busyClosed, r -> r.mud(120));
        Check.badState("mud(0), no depth", () -> Rooms.closed(new Kickroom()), r -> r.mud(0));
        Check.badState("mud of the weight before", Rooms::busyClosed, r -> r.mud(110));
    }

    private static void promise4DrillArgument() {
        Check.promise(4, "IllegalArgumentException if metres is out of range");
        for (int wrong : new int[] {0, -1, 501, MIN, MAX}) {
            Check.badArgument("drill(" + wrong + ")", Rooms::ready, r -> r.drill(wrong));
            Check.badArgument("drill(" + wrong + "), barred", Rooms::busyClosed, r -> r.drill(wrong));
            Check.badArgument("drill(" + wrong + "), no MINUTES left", () -> aged(100000), r -> r.drill(wrong));
        }
        Check.due("drill(1)", Rooms.ready().drill(1), 1);
        Check.due("drill(500)", Rooms.ready().drill(500), 500);
    }

    private static void promise4DrillBarred() {
        Check.promise(4, "IllegalStateException if something bars it");
        Check.badState("a STOP", () -> stopped(Rooms.ready()), r -> r.drill(1));
        Check.badState("CLOSED", () -> Rooms.closed(Rooms.ready()), r -> r.drill(1));
        Check.badState("a GAS", Rooms::kicked, r -> r.drill(1));
        Check.badState("a GAS without volume", Rooms::shrunken, r -> r.drill(1));
        Check.badState("a LIQUID", Rooms::flooded, r -> r.drill(1));
        Check.badState("one BARRIER", Kickroom::new, r -> r.drill(1));
        Check.badState("no BARRIER", Rooms::withoutBarrier, r -> r.drill(1));
        Check.badState("at 5000", () -> Rooms.drilled(5000), r -> r.drill(1));
    }

    private static Kickroom stopped(Kickroom room) {
        room.stop(0, true);
        return room;
    }

    private static void promise4DrillTooDeep() {
        Check.promise(4, "IllegalStateException if .. the depth would be above 5000 .. by all these metres");
        Check.badState("drill(500) at 4501", () -> Rooms.drilled(4501), r -> r.drill(500));
        Check.badState("drill(2) at 4999", () -> Rooms.drilled(4999), r -> r.drill(2));
        Check.badState("drill(101) at 4900, GAS at 4901", RefusedTest::overTheLast, r -> r.drill(101));
        Check.due("drill(500) at 4500", Rooms.drilled(4500).drill(500), 500);
        Check.due("drill(499) at 4501", Rooms.drilled(4501).drill(499), 499);
        Kickroom room = Rooms.drilled(4999);
        Check.due("drill(1) at 4999", room.drill(1), 1);
        Check.due("depth", room.of(0), 5000);
        Check.due("drill(100) at 4900, GAS at 4901", overTheLast().drill(100), 1);
    }

    /** At 4900 metres; the LAYER 49 below it has GAS that the mud does not hold. */
    private static Kickroom overTheLast() {
        Kickroom room = Rooms.ready();
        room.layer(49, 300, 300, 10, true);
        return Rooms.deeper(room, 4900);
    }

    private static void promise4DrillTooLong() {
        Check.promise(4, "IllegalStateException if .. the MINUTES [would be] above 100000, by all these metres");
        Check.badState("drill(500) at 99501", () -> aged(99501), r -> r.drill(500));
        Check.badState("drill(2) at 99999", () -> aged(99999), r -> r.drill(2));
        Check.badState("drill(2) at 99999, GAS at the first", RefusedTest::overKickAged, r -> r.drill(2));
        Check.badState("drill(1) at 100000", () -> aged(100000), r -> r.drill(1));
        Check.due("drill(1) at 99999 into GAS", overKickAged().drill(1), 1);
        Check.due("drill(500) at 99500", aged(99500).drill(500), 500);
        Check.due("drill(499) at 99501", aged(99501).drill(499), 499);
        Kickroom room = aged(99999);
        Check.due("drill(1) at 99999", room.drill(1), 1);
        Check.due("MINUTES", room.of(4), 100000);
    }

    private static Kickroom overKickAged() {
        Kickroom room = Rooms.passAll(Rooms.overKick(100, true), 99899);
        room.test(VALVE, 1000);
        return room;
    }

    private static void promise5PassArgument() {
        Check.promise(5, "IllegalArgumentException if minutes is out of range");
        for (int wrong : new int[] {0, -1, 2001, MIN, MAX}) {
            Check.badArgument("pass(" + wrong + ")", Rooms::busyClosed, r -> r.pass(wrong));
            Check.badArgument("pass(" + wrong + "), no MINUTES left", () -> aged(100000), r -> r.pass(wrong));
        }
        Kickroom room = new Kickroom();
        room.pass(1);
        room.pass(2000);
        Check.due("MINUTES", room.of(4), 2001);
    }

    private static void promise5PassTooLong() {
        Check.promise(5, "IllegalStateException if the MINUTES would be above 100000");
        Check.badState("pass(2000) at 98001", () -> aged(98001), r -> r.pass(2000));
        Check.badState("pass(2) at 99999", () -> aged(99999), r -> r.pass(2));
        Check.badState("pass(1) at 100000", () -> aged(100000), r -> r.pass(1));
        Kickroom room = aged(98000);
        room.pass(2000);
        Check.due("MINUTES", room.of(4), 100000);
        Kickroom last = aged(99999);
        last.pass(1);
        Check.due("MINUTES", last.of(4), 100000);
    }

    private static void promise6CloseState() {
        Check.promise(6, "IllegalStateException if it is CLOSED");
        Check.badState("close()", Rooms::busyClosed, Kickroom::close);
        Check.badState("close(), no depth", () -> Rooms.closed(new Kickroom()), Kickroom::close);
    }

    private static void promise7OpenState() {
        Check.promise(7, "IllegalStateException if it is OPEN");
        Check.badState("open()", Rooms::busy, Kickroom::open);
        Check.badState("open(), new", Kickroom::new, Kickroom::open);
        Check.badState("open(), by a valve that broke", Rooms::broken, Kickroom::open);
    }

    private static void promise8PumpArgument() {
        Check.promise(8, "IllegalArgumentException if minutes or weight is out of range");
        for (int wrong : new int[] {0, -1, 501, MIN, MAX}) {
            Check.badArgument("pump(" + wrong + ", 121)", Rooms::busyClosed, r -> r.pump(wrong, 121));
        }
        for (int wrong : new int[] {-1, 301, MIN, MAX}) {
            Check.badArgument("pump(1, " + wrong + ")", Rooms::busyClosed, r -> r.pump(1, wrong));
        }
        Check.badArgument("pump(0, 121), OPEN", Rooms::busy, r -> r.pump(0, 121));
        Check.badArgument("pump(1, 301), OPEN", Rooms::busy, r -> r.pump(1, 301));
        Check.badArgument("pump(501, 121), no depth", () -> Rooms.closed(new Kickroom()), r -> r.pump(501, 121));
        Check.badArgument("pump(1, -1), no MINUTES left", () -> Rooms.closed(aged(100000)), r -> r.pump(1, -1));
        Check.due("pump(1, 0)", Rooms.closed(Rooms.drilled(100)).pump(1, 0), 1);
        Check.due("pump(500, 300)", Rooms.closed(Rooms.drilled(100)).pump(500, 300), 500);
    }

    private static void promise8PumpState() {
        Check.promise(8, "IllegalStateException if THE WELL is OPEN, its depth is 0");
        Check.badState("OPEN", Rooms::busy, r -> r.pump(1, 120));
        Check.badState("OPEN, another weight", Rooms::busy, r -> r.pump(1, 121));
        Check.badState("OPEN by a valve that broke", Rooms::broken, r -> r.pump(1, 120));
        Check.badState("no depth", () -> Rooms.closed(Rooms.ready()), r -> r.pump(1, 120));
        Check.due("at 1", Rooms.closed(Rooms.drilled(1)).pump(1, 120), 1);
    }

    private static void promise8PumpTooLong() {
        Check.promise(8, "IllegalStateException if .. the MINUTES would be above 100000");
        Check.badState("pump(500) at 99501", () -> Rooms.closed(aged(99501)), r -> r.pump(500, 121));
        Check.badState("pump(2) at 99999", () -> Rooms.closed(aged(99999)), r -> r.pump(2, 121));
        Check.badState("pump(1) at 100000", () -> Rooms.closed(aged(100000)), r -> r.pump(1, 121));
        Check.due("pump(500) at 99500", Rooms.closed(aged(99500)).pump(500, 121), 500);
        Kickroom room = Rooms.closed(aged(99999));
        Check.due("pump(1) at 99999", room.pump(1, 121), 1);
        Check.due("MINUTES", room.of(4), 100000);
    }

    private static void promise9CasingArgument() {
        Check.promise(9, "IllegalArgumentException if barrels is out of range");
        for (int wrong : new int[] {-1, 1001, MIN, MAX}) {
            Check.badArgument("casing(" + wrong + ")", Rooms::busy, r -> r.casing(wrong));
            Check.badArgument("casing(" + wrong + "), no depth", Kickroom::new, r -> r.casing(wrong));
            Check.badArgument("casing(" + wrong + "), GAS", Rooms::busyClosed, r -> r.casing(wrong));
        }
        Check.due("casing(0)", Rooms.drilled(100).casing(0), 0);
        Check.due("casing(1000)", Rooms.drilled(100).casing(1000), 10000);
    }

    private static void promise9CasingState() {
        Check.promise(9, "IllegalStateException if the depth is the SHOE, or there is a GAS or a LIQUID");
        Check.badState("no depth", Kickroom::new, r -> r.casing(5));
        Check.badState("at the SHOE", () -> cased(Rooms.busy()), r -> r.casing(5));
        Check.badState("at the SHOE of 5000", () -> cased(Rooms.drilled(5000)), r -> r.casing(5));
        Check.badState("GAS", Rooms::busyClosed, r -> r.casing(5));
        Check.badState("GAS without volume", Rooms::shrunken, r -> r.casing(5));
        Check.badState("LIQUID", Rooms::flooded, r -> r.casing(5));
        Check.due("at 1", Rooms.drilled(1).casing(5), 5000);
        Kickroom room = cased(Rooms.drilled(100));
        room.drill(1);
        Check.due("1 below the SHOE", room.casing(5), 5000);
    }

    private static Kickroom cased(Kickroom room) {
        room.casing(7);
        return room;
    }

    private static void promise10StrengthArgument() {
        Check.promise(10, "IllegalArgumentException if strength is out of range");
        for (int wrong : new int[] {-1, 100001, MIN, MAX}) {
            Check.badArgument("strength(" + wrong + ")", Rooms::busy, r -> r.strength(wrong));
        }
        Kickroom room = new Kickroom();
        Check.due("strength(0)", room.strength(0), 10000);
        Check.due("strength(100000)", room.strength(100000), 0);
        Check.due("strength(5)", room.strength(5), 100000);
    }

    private static void promise11TestArgument() {
        Check.promise(11, "IllegalArgumentException if what or pressure is out of range");
        for (int wrong : new int[] {-1, 2, MIN, MAX}) {
            Check.badArgument("test(" + wrong + ", 1000)", Rooms::busy, r -> r.test(wrong, 1000));
        }
        for (int wrong : new int[] {-1, 0, 999, 100001, MIN, MAX}) {
            Check.badArgument("test(VALVE, " + wrong + ")", Rooms::busy, r -> r.test(VALVE, wrong));
            Check.badArgument("test(CEMENT, " + wrong + ")", Rooms::busy, r -> r.test(CEMENT, wrong));
        }
        Check.badArgument("test(2, 1000), CLOSED", Rooms::busyClosed, r -> r.test(2, 1000));
        Check.badArgument("test(VALVE, 999), CLOSED", Rooms::busyClosed, r -> r.test(VALVE, 999));
        Check.badArgument("test(-1, 1000), there were 60", () -> Rooms.tested(60), r -> r.test(-1, 1000));
        Check.badArgument("test(VALVE, 100001), there were 60", () -> Rooms.tested(60),
                r -> r.test(VALVE, 100001));
        Check.badArgument("test(CEMENT, 999), no casing", Kickroom::new, r -> r.test(CEMENT, 999));
        Kickroom room = Rooms.busy();
        Check.due("test(VALVE, 1000)", room.test(VALVE, 1000), true);
        Check.due("test(CEMENT, 1000)", room.test(CEMENT, 1000), true);
        Check.due("test(VALVE, 100000)", room.test(VALVE, 100000), false);
        Check.due("test(CEMENT, 100000)", room.test(CEMENT, 100000), false);
    }

    private static void promise11TestState() {
        Check.promise(11, "IllegalStateException if THE WELL is CLOSED .. or CEMENT is told, and there is no casing");
        Check.badState("CLOSED, VALVE", Rooms::busyClosed, r -> r.test(VALVE, 1000));
        Check.badState("CLOSED, CEMENT", Rooms::busyClosed, r -> r.test(CEMENT, 1000));
        Check.badState("CLOSED, a test of the cement FAILED", RefusedTest::cementFailed, r -> r.test(VALVE, 1000));
        Check.badState("CLOSED, the valve broke", () -> Rooms.closed(Rooms.broken()), r -> r.test(VALVE, 1000));
        Check.badState("no casing at 0", Kickroom::new, r -> r.test(CEMENT, 1000));
        Check.badState("no casing at 100", () -> Rooms.drilled(100), r -> r.test(CEMENT, 1000));
        Check.due("VALVE, no casing", new Kickroom().test(VALVE, 1000), true);
        Kickroom room = Rooms.drilled(1);
        room.casing(0);
        Check.due("a casing of no barrels", room.test(CEMENT, 1000), false);
    }

    private static Kickroom cementFailed() {
        Kickroom room = cased(Rooms.drilled(100));
        room.test(CEMENT, 1000);
        return Rooms.closed(room);
    }

    private static void promise11TestSixty() {
        Check.promise(11, "IllegalStateException if .. there were 60");
        Check.badState("VALVE after 60", () -> Rooms.tested(60), r -> r.test(VALVE, 10001));
        Check.badState("CEMENT after 60", () -> Rooms.tested(60), r -> r.test(CEMENT, 10001));
        Kickroom room = Rooms.tested(59);
        Check.due("VALVE after 59", room.test(VALVE, 9876), true);
        Check.due("the last one is kept", room.ofTest(59, 1), 9876);
        Check.due("CEMENT after 59", Rooms.tested(59).test(CEMENT, 1000), true);
    }

    private static void promise12StopIndex() {
        Check.promise(12, "IndexOutOfBoundsException if there is no such person");
        for (int wrong : new int[] {-1, 6, 32, MIN, MAX}) {
            Check.outOfBounds("stop(" + wrong + ", true)", Rooms::busy, r -> r.stop(wrong, true));
            Check.outOfBounds("stop(" + wrong + ", false)", RefusedTest::stoppedByAll, r -> r.stop(wrong, false));
        }
        Kickroom room = new Kickroom();
        Check.due("stop(0, true)", room.stop(0, true), 1);
        Check.due("stop(5, true)", room.stop(5, true), 2);
    }

    private static Kickroom stoppedByAll() {
        Kickroom room = Rooms.ready();
        for (int person = 0; person <= 5; person++) {
            room.stop(person, true);
        }
        return room;
    }

    private static void promise13PressureArgument() {
        Check.promise(13, "IllegalArgumentException if what is out of range");
        for (int wrong : new int[] {-1, 6, MIN, MAX}) {
            Check.badArgument("pressure(" + wrong + ")", Rooms::busyClosed, r -> r.pressure(wrong));
            Check.badArgument("pressure(" + wrong + "), new", Kickroom::new, r -> r.pressure(wrong));
        }
        Check.due("pressure(0)", Rooms.busy().pressure(0), 2189);
        Check.due("pressure(5)", Rooms.busy().pressure(5), 0);
    }

    private static void promise14OfArgument() {
        Check.promise(14, "IllegalArgumentException if what is out of range");
        for (int wrong : new int[] {-1, 12, MIN, MAX}) {
            Check.badArgument("of(" + wrong + ")", Rooms::busyClosed, r -> r.of(wrong));
            Check.badArgument("of(" + wrong + "), new", Kickroom::new, r -> r.of(wrong));
        }
        Check.due("of(0)", Rooms.busy().of(0), 199);
        Check.due("of(11)", Rooms.busy().of(11), 2000);
    }

    private static void promise17OfTestIndex() {
        Check.promise(17, "IndexOutOfBoundsException if there is no such test");
        for (int wrong : new int[] {-1, 0, 1, 60, MIN, MAX}) {
            ofNoTest(Kickroom::new, wrong);
        }
        for (int wrong : new int[] {-1, 2, 3, 60, MIN, MAX}) {
            ofNoTest(Rooms::busy, wrong);
        }
        for (int wrong : new int[] {-1, 60, 61, MIN, MAX}) {
            ofNoTest(() -> Rooms.tested(60), wrong);
        }
        Check.due("the first of two", Rooms.busy().ofTest(0, 1), 1000);
        Check.due("the last of two", Rooms.busy().ofTest(1, 1), 1500);
        Check.due("the first of 60", Rooms.tested(60).ofTest(0, 1), 1000);
        Check.due("the last of 60", Rooms.tested(60).ofTest(59, 1), 1059);
    }

    private static void ofNoTest(Supplier<Kickroom> way, int test) {
        for (int what : new int[] {0, 3, 4, -1}) {
            Check.outOfBounds("ofTest(" + test + ", " + what + ")", way, r -> r.ofTest(test, what));
        }
    }

    private static void promise17OfTestArgument() {
        Check.promise(17, "IllegalArgumentException if what is out of range");
        for (int wrong : new int[] {-1, 4, MIN, MAX}) {
            Check.badArgument("ofTest(0, " + wrong + ")", Rooms::busy, r -> r.ofTest(0, wrong));
            Check.badArgument("ofTest(1, " + wrong + ")", Rooms::busy, r -> r.ofTest(1, wrong));
        }
        Check.due("ofTest(1, 0)", Rooms.busy().ofTest(1, 0), CEMENT);
        Check.due("ofTest(1, 3)", Rooms.busy().ofTest(1, 3), 50);
    }

    private static void promise18KillWeightState() {
        Check.promise(18, "IllegalStateException if the depth is 0");
        Check.badState("new", Kickroom::new, Kickroom::killWeight);
        Check.badState("CLOSED", () -> Rooms.closed(Rooms.ready()), Kickroom::killWeight);
        Check.due("at 1", Rooms.drilled(1).killWeight(), 100);
    }

    private static void promise19WindowArgument() {
        Check.promise(19, "IllegalArgumentException if from or to is out of range");
        for (boolean isHigh : new boolean[] {false, true}) {
            notAWindow(-1, 5, isHigh);
            notAWindow(-1, 0, isHigh);
            notAWindow(-100, 100, isHigh);
            notAWindow(5000, 5000, isHigh);
            notAWindow(5000, 5001, isHigh);
            notAWindow(0, 0, isHigh);
            notAWindow(0, -1, isHigh);
            notAWindow(0, 5001, isHigh);
            notAWindow(10, 10, isHigh);
            notAWindow(10, 9, isHigh);
            notAWindow(4999, 4999, isHigh);
            notAWindow(4999, 5001, isHigh);
            notAWindow(MIN, MIN, isHigh);
            notAWindow(MIN, MAX, isHigh);
            notAWindow(MAX, MIN, isHigh);
            notAWindow(MAX, MAX, isHigh);
            notAWindow(0, MAX, isHigh);
        }
        Check.due("window(0, 1)", Rooms.busy().window(0, 1, false), 100);
        Check.due("window(0, 5000)", Rooms.busy().window(0, 5000, false), 300);
        Check.due("window(4999, 5000)", Rooms.busy().window(4999, 5000, true), 180);
    }

    private static void notAWindow(int from, int to, boolean isHigh) {
        Check.badArgument("window(" + from + ", " + to + ")", Rooms::busy, r -> r.window(from, to, isHigh));
    }

    private static void promise20CasingsArgument() {
        Check.promise(20, "IllegalArgumentException if to is out of range");
        for (int wrong : new int[] {0, -1, 5001, MIN, MAX}) {
            Check.badArgument("casings(" + wrong + ")", Rooms::busy, r -> r.casings(wrong));
        }
        Check.due("casings(1)", new Kickroom().casings(1), 1);
        Check.due("casings(5000)", new Kickroom().casings(5000), 1);
    }

    private static void promise21CasingsAnewArgument() {
        Check.promise(21, "IllegalArgumentException if to is out of range");
        for (int wrong : new int[] {0, -1, 5001, MIN, MAX}) {
            Check.badArgument("casingsAnew(" + wrong + ")", Rooms::busy, r -> r.casingsAnew(wrong));
        }
        Check.due("casingsAnew(1)", new Kickroom().casingsAnew(1), 1);
        Check.due("casingsAnew(5000)", new Kickroom().casingsAnew(5000), 1);
    }

    private static void promise22EquivalentState() {
        Check.promise(22, "IllegalStateException if the SHOE is 0");
        Check.badState("new", Kickroom::new, Kickroom::equivalent);
        Check.badState("at 100", () -> Rooms.drilled(100), Kickroom::equivalent);
        Kickroom room = cased(Rooms.drilled(1));
        Check.due("a SHOE of 1", room.equivalent(), 110);
    }

    private static void promise23AheadArgument() {
        Check.promise(23, "IllegalArgumentException if minutes is out of range");
        for (int wrong : new int[] {0, -1, 2001, MIN, MAX}) {
            Check.badArgument("ahead(" + wrong + ")", Rooms::busyClosed, r -> r.ahead(wrong));
            Check.badArgument("ahead(" + wrong + "), no MINUTES left", () -> aged(100000), r -> r.ahead(wrong));
        }
        Check.due("ahead(1)", Rooms.kicked().ahead(1), 42);
        Check.due("ahead(2000), new", new Kickroom().ahead(2000), 0);
    }
}
