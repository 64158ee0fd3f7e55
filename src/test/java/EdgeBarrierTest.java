/** The edges of casings, tests, stops and barriers: the document's words under BARRIERS, STOPS, one test for each. */
public final class EdgeBarrierTest {
    private static final int VALVE = Kickroom.VALVE;
    private static final int CEMENT = Kickroom.CEMENT;

    public static void main(String[] args) {
        promise11ValveAtItsStrength();
        promise11ValveEnds();
        promise11CementAtItsStrength();
        promise11CementEnds();
        promise11TestChangesNoStrength();
        promise17NumberedFrom0();
        promise17MinutesGoneBy();
        promise15MudHolds();
        promise15MudAtNoDepth();
        promise15MudNoGasNoLiquid();
        promise15MudWithChoke();
        promise15ValveUntested();
        promise15ValveTwoWeeks();
        promise15ValveLatest();
        promise15ValveLatestAlone();
        promise15ValveBroke();
        promise15ValveBrokeBefore();
        promise15ValveStrengthLater();
        promise15CementNoCasing();
        promise15CementSinceItWasSet();
        promise15CementLatest();
        promise15CementNeverOld();
        promise9CementRoundedDown();
        promise9HowMuchDeeper();
        promise9CementEnds();
        promise9CasingClosed();
        promise10StrengthFromNowOn();
        promise12HoldsUntilLifted();
        promise12SaidTwice();
        promise12AllPersons();
        promise16FirstThatIsSo();
        promise16StopOfEach();
        promise16FewerThanTwo();
        promise16Depth();
        promise16Inflow();
        Check.finish();
    }

    private static void promise11ValveAtItsStrength() {
        Check.promise(11, "PASSED, if the pressure is not above the strength, otherwise it FAILED");
        Kickroom room = new Kickroom();
        Check.due("9999 of 10000", room.test(VALVE, 9999), true);
        Check.due("10000 of 10000", room.test(VALVE, 10000), true);
        Check.due("10001 of 10000", room.test(VALVE, 10001), false);
        int[] passed = {1, 1, 0};
        for (int test = 0; test < passed.length; test++) {
            Check.due("ofTest(" + test + ", 2)", room.ofTest(test, 2), passed[test]);
        }
    }

    private static void promise11ValveEnds() {
        Check.promise(11, "pressure: 1000 to 100000; the strength: 0 to 100000");
        int[][] tests = {{0, 1000, 0}, {999, 1000, 0}, {1000, 1000, 1}, {1001, 1000, 1}, {99999, 100000, 0},
            {100000, 100000, 1}};
        for (int[] at : tests) {
            Kickroom room = new Kickroom();
            room.strength(at[0]);
            Check.due(at[1] + " of " + at[0], room.test(VALVE, at[1]), at[2] == 1);
            Check.due("ofTest(0, 1)", room.ofTest(0, 1), at[1]);
            Check.due("barriers()", room.barriers(), at[2] == 1 ? 3 : 1);
        }
    }

    private static void promise11CementAtItsStrength() {
        Check.promise(11, "the cement has one, as the casing was set; PASSED, if the pressure is not above it");
        Kickroom room = Rooms.cased(4, 5);
        Check.due("strength", room.of(11), 1250);
        Check.due("1249 of 1250", room.test(CEMENT, 1249), true);
        Check.due("1250 of 1250", room.test(CEMENT, 1250), true);
        Check.due("1251 of 1250", room.test(CEMENT, 1251), false);
        room.strength(0);
        Check.due("whatever the valve's", room.test(CEMENT, 1250), true);
        room.strength(100000);
        Check.due("whatever the valve's", room.test(CEMENT, 1251), false);
        Check.due("the valve", room.test(VALVE, 100000), true);
    }

    private static void promise11CementEnds() {
        Check.promise(11, "pressure: 1000 to 100000; the strength of the cement, 0 to 1000000");
        Check.due("1000 of 0", Rooms.cased(1, 0).test(CEMENT, 1000), false);
        Check.due("1000 of 999", Rooms.cased(1000, 999).test(CEMENT, 1000), false);
        Check.due("1000 of 1000", Rooms.cased(1000, 1000).test(CEMENT, 1000), true);
        Check.due("100000 of 100000", Rooms.cased(10, 1000).test(CEMENT, 100000), true);
        Check.due("100000 of 99900", Rooms.cased(10, 999).test(CEMENT, 100000), false);
        Check.due("100000 of 1000000", Rooms.cased(1, 1000).test(CEMENT, 100000), true);
    }

    private static void promise11TestChangesNoStrength() {
        Check.promise(11, "A test of either, by a pressure");
        Kickroom room = Rooms.cased(4, 5);
        room.test(VALVE, 100000);
        room.test(CEMENT, 100000);
        Check.due("the cement's strength", room.of(11), 1250);
        Check.due("the valve's strength", room.strength(10000), 10000);
        Check.due("MINUTES", room.of(4), 4);
    }

    private static void promise17NumberedFrom0() {
        Check.promise(17, "tests are numbered from 0, at most 60");
        Kickroom room = Rooms.tested(60);
        Check.due("the first: what", room.ofTest(0, 0), VALVE);
        Check.due("the first: pressure", room.ofTest(0, 1), 1000);
        Check.due("the first: MINUTES", room.ofTest(0, 3), 0);
        for (int test = 1; test < 60; test++) {
            Check.due("what of " + test, room.ofTest(test, 0), test % 2);
            Check.due("pressure of " + test, room.ofTest(test, 1), 1000 + test);
            Check.due("PASSED of " + test, room.ofTest(test, 2), 1);
            Check.due("MINUTES of " + test, room.ofTest(test, 3), 10);
        }
    }

    private static void promise17MinutesGoneBy() {
        Check.promise(17, "3 how many MINUTES had gone by: none, one, and the most");
        Kickroom room = new Kickroom();
        room.test(VALVE, 1000);
        room.pass(1);
        room.test(VALVE, 1000);
        Rooms.passAll(room, 99999);
        room.test(VALVE, 1000);
        Check.due("none", room.ofTest(0, 3), 0);
        Check.due("one", room.ofTest(1, 3), 1);
        Check.due("the most", room.ofTest(2, 3), 100000);
        Check.due("barriers()", room.barriers(), 3);
    }

    private static Kickroom under(int weight) {
        Kickroom room = Rooms.drilled(10);
        room.mud(weight);
        return room;
    }

    private static void promise15MudHolds() {
        Check.promise(15, "1 the mud, if .. the BOTTOM is not less than the PORE at the depth");
        Check.due("one less", under(99).barriers(), 2);
        Check.due("equal", under(100).barriers(), 3);
        Check.due("one more", under(101).barriers(), 3);
        Check.due("none", under(0).barriers(), 2);
    }

    private static void promise15MudAtNoDepth() {
        Check.promise(15, "the BOTTOM is not less than the PORE at the depth of 0");
        Kickroom room = new Kickroom();
        Check.due("new", room.barriers(), 1);
        room.mud(0);
        room.layer(0, 300, 300, 10, true);
        Check.due("mud of 0", room.barriers(), 1);
    }

    private static void promise15MudNoGasNoLiquid() {
        Check.promise(15, "1 the mud, if there are no GAS and no LIQUID");
        Kickroom gas = Rooms.bubble(20);
        Check.due("GAS: the BOTTOM is enough", gas.pressure(0) > gas.pressure(1), true);
        Check.due("GAS", gas.barriers(), 2);
        gas.pass(1);
        Check.due("GAS without a volume", gas.barriers(), 2);
        gas.pass(2);
        Check.due("GAS that is gone", gas.barriers(), 3);
        Kickroom liquid = Rooms.kick(Rooms.over(20, 100, 0, false), 0);
        Check.due("LIQUID: the BOTTOM is enough", liquid.pressure(0) > liquid.pressure(1), true);
        Check.due("LIQUID", liquid.barriers(), 2);
        liquid.close();
        liquid.pump(1, 300);
        Check.due("LIQUID that is gone", liquid.barriers(), 3);
    }

    private static void promise15MudWithChoke() {
        Check.promise(15, "the BOTTOM is not less than the PORE, by the CHOKE too");
        Kickroom room = under(90);
        room.close();
        Check.due("no CHOKE yet", room.barriers(), 2);
        room.pass(1);
        Check.due("a CHOKE of 10", room.barriers(), 3);
        room.open();
        Check.due("OPEN", room.barriers(), 2);
    }

    private static void promise15ValveUntested() {
        Check.promise(15, "2 the valve, if it has a test");
        Kickroom room = new Kickroom();
        Check.due("no test", room.barriers(), 1);
        room.test(VALVE, 1000);
        Check.due("a test", room.barriers(), 3);
        Kickroom failed = new Kickroom();
        failed.test(VALVE, 10001);
        Check.due("a test that FAILED", failed.barriers(), 1);
    }

    private static void promise15ValveTwoWeeks() {
        Check.promise(15, "and was at most 20160 MINUTES ago");
        int[][] minutes = {{20159, 3}, {20160, 3}, {20161, 1}};
        for (int[] at : minutes) {
            Check.due(at[0] + " ago", Rooms.passAll(Rooms.ready(), at[0]).barriers(), at[1]);
            Kickroom late = Rooms.passAll(new Kickroom(), 50000);
            late.test(VALVE, 1000);
            Check.due(at[0] + " ago, at 50000", Rooms.passAll(late, at[0]).barriers(), at[1]);
        }
    }

    private static void promise15ValveLatest() {
        Check.promise(15, "2 the valve, if .. the latest one PASSED");
        Kickroom room = Rooms.ready();
        room.test(VALVE, 10001);
        Check.due("PASSED, FAILED", room.barriers(), 1);
        room.test(VALVE, 10000);
        Check.due("PASSED, FAILED, PASSED", room.barriers(), 3);
        Kickroom cement = Rooms.cased(10, 0);
        cement.test(CEMENT, 1000);
        Check.due("a test of the cement FAILED", cement.barriers(), 3);
    }

    private static void promise15ValveLatestAlone() {
        Check.promise(15, "the latest one .. was at most 20160 MINUTES ago, not one before");
        Kickroom room = Rooms.passAll(Rooms.ready(), 20161);
        room.test(VALVE, 10001);
        Check.due("old and PASSED, new and FAILED", room.barriers(), 1);
        room.test(VALVE, 1000);
        Check.due("new and PASSED", room.barriers(), 3);
        Kickroom again = Rooms.passAll(Rooms.ready(), 10000);
        again.test(VALVE, 1000);
        Rooms.passAll(again, 20160);
        Check.due("20160 since the latest", again.barriers(), 3);
        again.pass(1);
        Check.due("20161 since the latest", again.barriers(), 1);
    }

    private static void promise15ValveBroke() {
        Check.promise(15, "and the valve did not break since");
        Kickroom room = Rooms.passed(Rooms.weak(Rooms.drilled(10)), 1);
        Check.due("it broke", room.barriers(), 0);
        room.strength(100000);
        Check.due("it is strong", room.barriers(), 0);
        room.test(VALVE, 1000);
        Check.due("a test since", room.barriers(), 2);
        Kickroom cement = Rooms.passed(Rooms.weak(Rooms.cased(10, 20)), 1);
        cement.test(CEMENT, 1000);
        Check.due("a test since, of the cement", cement.barriers(), 4);
        Kickroom pumped = Rooms.drilled(10);
        pumped.mud(0);
        pumped.strength(0);
        pumped.close();
        pumped.pump(1, 0);
        Check.due("it broke as mud was pumped", pumped.barriers(), 0);
    }

    private static void promise15ValveBrokeBefore() {
        Check.promise(15, "and the valve did not break since, but before");
        Kickroom room = Rooms.passed(Rooms.weak(Rooms.drilled(10)), 1);
        room.test(VALVE, 1000);
        Check.due("a test since that FAILED", room.barriers(), 0);
        room.strength(1000);
        room.test(VALVE, 1000);
        Check.due("a test since that PASSED", room.barriers(), 2);
        room.close();
        room.pass(1);
        Check.due("it holds", room.barriers(), 2);
        room.strength(0);
        room.pass(1);
        Check.due("it broke again", room.barriers(), 0);
        Kickroom never = new Kickroom();
        never.layer(0, 100, 180, 0, false);
        Check.due("no test, no break", never.barriers(), 1);
    }

    private static void promise15ValveStrengthLater() {
        Check.promise(15, "tests that stay on record: the strength is told later");
        Kickroom room = Rooms.ready();
        room.strength(0);
        Check.due("PASSED, then weak", room.barriers(), 3);
        room.test(VALVE, 1000);
        room.strength(100000);
        Check.due("FAILED, then strong", room.barriers(), 1);
        Check.due("on record", room.ofTest(0, 2), 1);
        Check.due("on record", room.ofTest(1, 2), 0);
    }

    private static void promise15CementNoCasing() {
        Check.promise(15, "4 the cement, if there is a casing, it has a test since it was set");
        Check.due("no casing", Rooms.drilled(10).barriers(), 3);
        Kickroom room = Rooms.cased(10, 1000);
        Check.due("no test", room.barriers(), 3);
        room.test(VALVE, 1000);
        Check.due("a test of the valve", room.barriers(), 3);
        room.test(CEMENT, 1000);
        Check.due("a test", room.barriers(), 7);
        Kickroom shallow = Rooms.cased(1, 1000);
        shallow.test(CEMENT, 1000);
        Check.due("a SHOE of 1", shallow.barriers(), 7);
    }

    private static void promise15CementSinceItWasSet() {
        Check.promise(15, "it has a test since it was set");
        Kickroom room = Rooms.cased(10, 1000);
        room.test(CEMENT, 1000);
        room.drill(1);
        Check.due("drilled on", room.barriers(), 7);
        room.casing(1000);
        Check.due("set anew", room.barriers(), 3);
        room.test(CEMENT, 1000);
        Check.due("a test since", room.barriers(), 7);
        room.drill(1);
        room.casing(0);
        room.test(CEMENT, 1000);
        Check.due("a test since that FAILED", room.barriers(), 3);
    }

    private static void promise15CementLatest() {
        Check.promise(15, "4 the cement, if .. the latest one PASSED");
        Kickroom room = Rooms.cased(10, 20);
        room.test(CEMENT, 2001);
        Check.due("FAILED", room.barriers(), 3);
        room.test(CEMENT, 2000);
        Check.due("FAILED, PASSED", room.barriers(), 7);
        room.test(CEMENT, 2001);
        Check.due("FAILED, PASSED, FAILED", room.barriers(), 3);
        room.test(CEMENT, 1000);
        room.test(VALVE, 10001);
        Check.due("a test of the valve FAILED", room.barriers(), 5);
    }

    private static void promise15CementNeverOld() {
        Check.promise(15, "4 the cement, if .. the latest one PASSED, however long ago");
        Kickroom room = Rooms.cased(10, 20);
        room.test(CEMENT, 1000);
        Rooms.passAll(room, 20161);
        Check.due("20161 ago", room.barriers(), 5);
        Rooms.passAll(room, 79829);
        Check.due("99990 ago", room.barriers(), 5);
        Kickroom weak = Rooms.cased(10, 20);
        weak.test(CEMENT, 1000);
        Check.due("the valve broke since", Rooms.passed(Rooms.weak(weak), 1).barriers(), 4);
    }

    private static void promise9CementRoundedDown() {
        Check.promise(9, "1000 times its barrels, divided by how much deeper the SHOE becomes; rounded down");
        int[][] casings = {{1, 1, 1000}, {3, 1, 333}, {3, 2, 666}, {3, 3, 1000}, {7, 1, 142}, {1000, 1, 1},
            {1001, 1, 0}, {999, 1, 1}, {1999, 1, 0}, {2000, 2, 1}};
        for (int[] at : casings) {
            Kickroom room = Rooms.drilled(at[0]);
            Check.due("casing(" + at[1] + ") at " + at[0], room.casing(at[1]), at[2]);
            Check.due("of(11) at " + at[0], room.of(11), at[2]);
        }
    }

    private static void promise9HowMuchDeeper() {
        Check.promise(9, "divided by how much deeper the SHOE becomes; makes the SHOE the depth");
        Kickroom room = Rooms.cased(10, 10);
        Check.due("10 deeper", room.of(11), 1000);
        room.drill(4);
        Check.due("SHOE", room.of(1), 10);
        Check.due("4 deeper", room.casing(10), 2500);
        Check.due("SHOE", room.of(1), 14);
        room.drill(1);
        Check.due("1 deeper", room.casing(10), 10000);
        Check.due("SHOE", room.of(1), 15);
    }

    private static void promise9CementEnds() {
        Check.promise(9, "barrels: 0 to 1000; the SHOE at the first depth and at the deepest");
        Check.due("0 at 1", Rooms.drilled(1).casing(0), 0);
        Check.due("1000 at 1", Rooms.drilled(1).casing(1000), 1000000);
        Check.due("4 at 5000", Rooms.drilled(5000).casing(4), 0);
        Check.due("5 at 5000", Rooms.drilled(5000).casing(5), 1);
        Kickroom room = Rooms.drilled(5000);
        Check.due("1000 at 5000", room.casing(1000), 200);
        Check.due("SHOE", room.of(1), 5000);
        Check.due("without a casing", Rooms.drilled(5000).of(11), 0);
    }

    private static void promise9CasingClosed() {
        Check.promise(9, "Sets a casing: only the SHOE, a GAS and a LIQUID are against it");
        Kickroom room = Rooms.closed(under(90));
        room.pass(1);
        Check.due("CLOSED, a CHOKE", room.casing(10), 1000);
        Check.due("CHOKE", room.pressure(4), 10);
        Kickroom stopped = Rooms.drilled(10);
        stopped.stop(0, true);
        Check.due("a STOP", stopped.casing(10), 1000);
        Kickroom gone = Rooms.bubble(8);
        gone.pass(1);
        Check.due("the GAS is gone", gone.casing(8), 1000);
    }

    private static void promise10StrengthFromNowOn() {
        Check.promise(10, "Tells the strength of the valve, from now on; 0 to 100000");
        Kickroom room = new Kickroom();
        Check.due("strength(0)", room.strength(0), 10000);
        Check.due("1000 of 0", room.test(VALVE, 1000), false);
        Check.due("strength(100000)", room.strength(100000), 0);
        Check.due("100000 of 100000", room.test(VALVE, 100000), true);
        Check.due("strength(100000)", room.strength(100000), 100000);
        Kickroom closed = Rooms.closed(under(90));
        closed.strength(10);
        closed.pass(1);
        Check.due("a CHOKE of 10 holds", closed.of(3), 1);
        Check.due("strength(9)", closed.strength(9), 10);
        Check.due("not until a MINUTE goes by", closed.of(3), 1);
        closed.pass(1);
        Check.due("it breaks", closed.of(3), 0);
        Check.due("it stays as told", closed.strength(5), 9);
    }

    private static void promise12HoldsUntilLifted() {
        Check.promise(12, "each may say STOP, which holds until that person lifts it");
        Kickroom room = Rooms.ready();
        Check.due("0 says it", room.stop(0, true), 1);
        for (int person = 1; person <= 5; person++) {
            Check.due(person + " lifts none", room.stop(person, false), 1);
            Check.due("bars()", room.bars(), 1);
        }
        Check.due("0 lifts it", room.stop(0, false), 0);
        Check.due("bars()", room.bars(), 0);
        Check.due("5 says it", room.stop(5, true), 1);
        Check.due("0 lifts none", room.stop(0, false), 1);
        Check.due("5 lifts it", room.stop(5, false), 0);
    }

    private static void promise12SaidTwice() {
        Check.promise(12, "whether that STOP holds from now on");
        Kickroom room = Rooms.ready();
        Check.due("said", room.stop(3, true), 1);
        Check.due("said twice", room.stop(3, true), 1);
        Check.due("lifted once", room.stop(3, false), 0);
        Check.due("lifted twice", room.stop(3, false), 0);
        Check.due("said again", room.stop(3, true), 1);
    }

    private static void promise12AllPersons() {
        Check.promise(12, "There are the persons 0 to 5; returns how many persons' STOPS hold then");
        Kickroom room = Rooms.ready();
        for (int person = 0; person <= 5; person++) {
            Check.due(person + " says it", room.stop(person, true), person + 1);
        }
        for (int person = 0; person <= 5; person++) {
            Check.due("bars()", room.bars(), 1);
            Check.due(person + " lifts it", room.stop(person, false), 5 - person);
        }
        Check.due("bars()", room.bars(), 0);
    }

    private static void promise16FirstThatIsSo() {
        Check.promise(16, "What bars drilling is the first of these that is so");
        Kickroom room = Rooms.kicked();
        room.close();
        room.stop(1, true);
        room.strength(0);
        Check.due("a STOP, CLOSED, a GAS", room.bars(), 1);
        room.stop(1, false);
        Check.due("CLOSED, a GAS", room.bars(), 2);
        room.pass(1);
        Check.due("a GAS, no BARRIERS", room.bars(), 3);
        Kickroom deep = Rooms.drilled(5000);
        deep.stop(5, true);
        deep.close();
        Check.due("a STOP, CLOSED, 5000", deep.bars(), 1);
        deep.stop(5, false);
        Check.due("CLOSED, 5000", deep.bars(), 2);
        deep.open();
        Check.due("5000", deep.bars(), 5);
        deep.mud(99);
        Check.due("one BARRIER, 5000", deep.bars(), 4);
        deep.pass(1);
        Check.due("a LIQUID, one BARRIER, 5000", deep.bars(), 3);
    }

    private static void promise16StopOfEach() {
        Check.promise(16, "1 a STOP holds");
        for (int person = 0; person <= 5; person++) {
            Kickroom room = Rooms.ready();
            Check.due("none holds", room.bars(), 0);
            room.stop(person, true);
            Check.due("a STOP by " + person, room.bars(), 1);
        }
    }

    private static void promise16FewerThanTwo() {
        Check.promise(16, "4 fewer than two of the three BARRIERS are there");
        int[][] bars = {{0, 4}, {1, 4}, {2, 4}, {3, 0}, {4, 4}, {5, 0}, {6, 0}, {7, 0}};
        for (int[] at : bars) {
            Kickroom room = Rooms.cased(10, (at[0] & 4) != 0 ? 10 : 0);
            room.mud((at[0] & 1) != 0 ? 100 : 99);
            room.test(VALVE, (at[0] & 2) != 0 ? 1000 : 10001);
            room.test(CEMENT, 1000);
            Check.due("barriers()", room.barriers(), at[0]);
            Check.due("bars() with " + at[0], room.bars(), at[1]);
        }
    }

    private static void promise16Depth() {
        Check.promise(16, "5 the depth is 5000");
        Check.due("at 4999", Rooms.drilled(4999).bars(), 0);
        Check.due("at 5000", Rooms.drilled(5000).bars(), 5);
        Check.due("at 0", Rooms.ready().bars(), 0);
    }

    private static void promise16Inflow() {
        Check.promise(16, "3 there is a GAS or a LIQUID");
        Check.due("a GAS", Rooms.kicked().bars(), 3);
        Check.due("a LIQUID", Rooms.flooded().bars(), 3);
        Kickroom one = Rooms.kick(Rooms.over(100, 100, 0, false), 0);
        Check.due("a LIQUID of 1", one.bars(), 3);
        Check.due("a GAS of 1", Rooms.bubble(100).bars(), 3);
        Kickroom none = Rooms.bubble(8);
        none.pass(1);
        Check.due("none any more", none.bars(), 0);
    }
}
