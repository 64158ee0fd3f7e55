/** Promises 9 to 12 and 15 to 17: casings, tests, stops, barriers, and what bars drilling. */
public final class BarrierTest {
    public static void main(String[] args) {
        promise9Casing();
        promise10Strength();
        promise11Test();
        promise11TestSixty();
        promise12Stop();
        promise15Barriers();
        promise15BarrierOfMud();
        promise15BarrierOfValve();
        promise15BarrierOfCement();
        promise16Bars();
        promise17OfTest();
        Check.finish();
    }

    private static void promise9Casing() {
        Check.promise(9, "Sets a casing");
        Kickroom room = Rooms.drilled(3);
        Check.due("casing(1)", room.casing(1), 333);
        Check.due("shoe", room.of(1), 3);
        Check.due("cement", room.of(11), 333);
        Check.due("minutes", room.of(4), 3);
        room.drill(7);
        Check.due("casing(2)", room.casing(2), 285);
        Check.due("shoe", room.of(1), 10);
        room.drill(1);
        room.close();
        Check.due("casing(1000), closed", room.casing(1000), 1000000);
        room.open();
        room.drill(1);
        Check.due("casing(0)", room.casing(0), 0);
        Check.due("shoe", room.of(1), 12);
        Check.due("cement", room.of(11), 0);
    }

    private static void promise10Strength() {
        Check.promise(10, "Tells the strength of the valve");
        Kickroom room = Rooms.ready();
        Check.due("strength(0)", room.strength(0), 10000);
        Check.due("the test before stays", room.barriers(), 3);
        Check.due("test", room.test(Kickroom.VALVE, 1000), false);
        Check.due("strength(100000)", room.strength(100000), 0);
        Check.due("the failed test stays", room.barriers(), 1);
        Check.due("test", room.test(Kickroom.VALVE, 100000), true);
        Check.due("strength(5)", room.strength(5), 100000);
        Check.due("strength(6)", room.strength(6), 5);
    }

    private static void promise11Test() {
        Check.promise(11, "Tests");
        Kickroom room = new Kickroom();
        Check.due("10000", room.test(Kickroom.VALVE, 10000), true);
        Check.due("10001", room.test(Kickroom.VALVE, 10001), false);
        Check.due("1000", room.test(Kickroom.VALVE, 1000), true);
        room.drill(2);
        room.casing(3);
        Check.due("cement 1500", room.test(Kickroom.CEMENT, 1500), true);
        Check.due("cement 1501", room.test(Kickroom.CEMENT, 1501), false);
        Check.due("cement 100000", room.test(Kickroom.CEMENT, 100000), false);
        Check.due("minutes", room.of(4), 2);
    }

    private static void promise11TestSixty() {
        Check.promise(11, "at most 60");
        Kickroom room = new Kickroom();
        for (int test = 0; test < 60; test++) {
            room.test(Kickroom.VALVE, 1000 + test);
        }
        Check.due("the last one", room.ofTest(59, 1), 1059);
    }

    private static void promise12Stop() {
        Check.promise(12, "Says STOP, or lifts it");
        Kickroom room = Rooms.ready();
        for (int person = 0; person <= 5; person++) {
            Check.due("stop " + person, room.stop(person, true), person + 1);
        }
        Check.due("said again", room.stop(2, true), 6);
        Check.due("lifted", room.stop(2, false), 5);
        Check.due("lifted again", room.stop(2, false), 5);
        for (int person = 0; person <= 5; person++) {
            Check.due("bars()", room.bars(), 1);
            room.stop(person, false);
        }
        Check.due("bars()", room.bars(), 0);
    }

    private static void promise15Barriers() {
        Check.promise(15, "Returns the BARRIERS that are there");
        Kickroom room = Rooms.drilled(100);
        Check.due("mud, valve", room.barriers(), 3);
        room.casing(100);
        Check.due("no test of the cement", room.barriers(), 3);
        room.test(Kickroom.CEMENT, 1000);
        Check.due("all", room.barriers(), 7);
        room.mud(99);
        Check.due("mud too light", room.barriers(), 6);
        room.mud(100);
        Check.due("mud as heavy", room.barriers(), 7);
        room.test(Kickroom.VALVE, 10001);
        Check.due("valve failed", room.barriers(), 5);
        room.mud(99);
        Check.due("cement alone", room.barriers(), 4);
        Check.due("bars()", room.bars(), 4);
        room.close();
        room.pass(1);
        Check.due("the choke helps", room.barriers(), 5);
    }

    private static void promise15BarrierOfMud() {
        Check.promise(15, "Returns the BARRIERS that are there");
        Kickroom gas = Rooms.kicked();
        gas.mud(300);
        // 284 metres of it would do, but the gas is there
        gas.pass(1);
        Check.due("gas", gas.barriers(), 2);
        gas.close();
        gas.pass(1);
        Check.due("gas, closed", gas.barriers(), 2);
        Kickroom liquid = Rooms.flooded();
        liquid.close();
        liquid.pass(1);
        Check.due("bottom is the pore", liquid.pressure(0), liquid.pressure(1));
        Check.due("liquid, closed", liquid.barriers(), 2);
    }

    private static void promise15BarrierOfValve() {
        Check.promise(15, "Returns the BARRIERS that are there");
        Kickroom room = Rooms.ready();
        Rooms.passAll(room, 20160);
        Check.due("20160 minutes ago", room.barriers(), 3);
        room.pass(1);
        Check.due("20161 minutes ago", room.barriers(), 1);
        room.test(Kickroom.VALVE, 1000);
        Check.due("tested again", room.barriers(), 3);
        room.test(Kickroom.VALVE, 20000);
        Check.due("the latest one failed", room.barriers(), 1);

        Kickroom weak = Rooms.kicked();
        weak.strength(0);
        weak.close();
        weak.pass(1);
        Check.due("broke", weak.barriers(), 0);
        weak.strength(10000);
        Check.due("strong again", weak.barriers(), 0);
        weak.test(Kickroom.VALVE, 1000);
        Check.due("tested since", weak.barriers(), 2);

        Kickroom asked = Rooms.kicked();
        asked.strength(0);
        asked.close();
        asked.ahead(5);
        Check.due("broken ahead() alone", asked.barriers(), 2);
    }

    private static void promise15BarrierOfCement() {
        Check.promise(15, "Returns the BARRIERS that are there");
        Kickroom room = Rooms.drilled(10);
        room.casing(100);
        room.test(Kickroom.CEMENT, 10000);
        Check.due("passed", room.barriers(), 7);
        room.test(Kickroom.CEMENT, 10001);
        Check.due("the latest one failed", room.barriers(), 3);
        room.test(Kickroom.CEMENT, 1000);
        room.test(Kickroom.VALVE, 20000);
        Check.due("a failed test of the valve", room.barriers(), 5);
        Rooms.passAll(room, 30000);
        Check.due("it does not grow old", room.barriers(), 5);
        room.drill(10);
        room.casing(100);
        Check.due("not since it was set", room.barriers(), 1);
        room.test(Kickroom.VALVE, 1000);
        Check.due("a test of the valve is none of it", room.barriers(), 3);
        room.test(Kickroom.CEMENT, 10000);
        Check.due("tested since", room.barriers(), 7);
        Kickroom shallow = Rooms.drilled(1);
        shallow.casing(1);
        shallow.test(Kickroom.CEMENT, 1000);
        Check.due("a shoe of 1", shallow.barriers(), 7);
    }

    private static void promise16Bars() {
        Check.promise(16, "Returns what bars drilling");
        Kickroom room = Rooms.kicked();
        Check.due("gas", room.bars(), 3);
        room.close();
        Check.due("closed, gas", room.bars(), 2);
        room.stop(0, true);
        Check.due("stop, closed, gas", room.bars(), 1);
        Check.due("liquid", Rooms.flooded().bars(), 3);
        Kickroom untested = new Kickroom();
        Check.due("mud alone", untested.bars(), 4);
        untested.test(Kickroom.VALVE, 10001);
        Check.due("mud alone, valve failed", untested.bars(), 4);
        untested.test(Kickroom.VALVE, 1000);
        Check.due("mud, valve", untested.bars(), 0);
        untested.drill(100);
        untested.mud(50);
        Check.due("valve alone", untested.bars(), 4);
        untested.casing(1000);
        untested.test(Kickroom.CEMENT, 1000);
        Check.due("valve, cement", untested.bars(), 0);
        untested.test(Kickroom.VALVE, 10001);
        Check.due("cement alone", untested.bars(), 4);
        untested.mud(100);
        Check.due("mud, cement", untested.bars(), 0);
        Kickroom deep = Rooms.drilled(4999);
        Check.due("at 4999", deep.bars(), 0);
        deep.drill(1);
        Check.due("at 5000", deep.bars(), 5);
        deep.test(Kickroom.VALVE, 10001);
        Check.due("at 5000, mud alone", deep.bars(), 4);
    }

    private static void promise17OfTest() {
        Check.promise(17, "Tells of a test");
        Kickroom room = Rooms.drilled(10);
        room.casing(20);
        room.pass(5);
        room.test(Kickroom.CEMENT, 2001);
        room.pass(1);
        room.test(Kickroom.VALVE, 9000);
        int[][] want = {{0, 1000, 1, 0}, {1, 2001, 0, 15}, {0, 9000, 1, 16}};
        for (int test = 0; test < 3; test++) {
            for (int what = 0; what < 4; what++) {
                Check.due("ofTest(" + test + ", " + what + ")", room.ofTest(test, what), want[test][what]);
            }
        }
        room.strength(0);
        Check.due("it stays on record", room.ofTest(2, 2), 1);
    }
}
