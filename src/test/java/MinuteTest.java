/** Promises 3 to 8: mud, drilling, minutes, the valve, pumping; and the steps of a MINUTE. */
public final class MinuteTest {
    public static void main(String[] args) {
        promise3Mud();
        promise4Drill();
        promise4DrillToTheEnd();
        promise4DrillLooksOnce();
        promise5PassOpen();
        promise5PassLeastInflow();
        promise5PassChargeTimesOne();
        promise5PassWithoutBottom();
        promise5PassLiquid();
        promise5PassLosesAtShoe();
        promise5PassFootUnderGas();
        promise5PassToTheEnd();
        promise6Close();
        promise6ValveBreaks();
        promise7Open();
        promise8Pump();
        promise8PumpLiquid();
        promise8PumpAnotherWeight();
        promise8PumpBreaks();
        promise8PumpLong();
        Check.finish();
    }

    private static void facts(String name, Kickroom room, int gas, int place, int choke) {
        Check.due(name + ": gas", room.of(5), gas);
        Check.due(name + ": place", room.of(6), place);
        Check.due(name + ": choke", room.pressure(4), choke);
    }

    private static void promise3Mud() {
        Check.promise(3, "Tells the weight of the mud, at once");
        Kickroom room = Rooms.drilled(50);
        Check.due("mud(300)", room.mud(300), 110);
        Check.due("mud(0)", room.mud(0), 300);
        Check.due("mud(123)", room.mud(123), 0);
        Check.due("weight", room.of(2), 123);
        Check.due("bottom", room.pressure(0), 615);
        Check.due("minutes", room.of(4), 50);
    }

    private static void promise4Drill() {
        Check.promise(4, "Drills, metre by metre");
        Kickroom room = Rooms.overKick(100, true);
        Check.due("depth", room.of(0), 100);
        Check.due("minutes", room.of(4), 100);
        Check.due("drill(50)", room.drill(50), 1);
        Check.due("depth", room.of(0), 101);
        Check.due("minutes", room.of(4), 101);
        facts("kick", room, 21, 101, 0);
        Kickroom last = Rooms.overKick(100, false);
        Check.due("drill(1), flows in at the last", last.drill(1), 1);
        Kickroom untested = new Kickroom();
        untested.test(Kickroom.VALVE, 1000);
        Check.due("drill(1)", untested.drill(1), 1);
        Check.due("drill(500)", untested.drill(500), 500);
    }

    private static void promise4DrillToTheEnd() {
        Check.promise(4, "Drills, metre by metre");
        Kickroom room = Rooms.drilled(4800);
        Check.due("drill(200) at 4800", room.drill(200), 200);
        Check.due("depth", room.of(0), 5000);
        Check.due("bars()", room.bars(), 5);
        Check.due("bottom at 5000", room.pressure(0), 55000);
    }

    private static void promise4DrillLooksOnce() {
        Check.promise(4, "What bars it is looked at once");
        Kickroom room = Rooms.ready();
        Rooms.passAll(room, 20160);
        Check.due("drill(10) as the test grows old", room.drill(10), 10);
        Check.due("bars()", room.bars(), 4);
    }

    private static void promise5PassOpen() {
        Check.promise(5, "Lets MINUTES go by");
        Kickroom room = Rooms.kicked();
        Check.due("pressure of the gas", room.pressure(5), 1010);
        // at 93 it is 21210 / 930 = 22; then 1 + (3030 - 790) / 100 = 23 barrels of 790 come in
        Check.due("pass(1)", room.pass(1), (21210 + 23 * 790) / 930);
        facts("risen", room, 42, 93, 0);
        room.pass(10);
        Check.due("place", room.of(6), 13);
        room.pass(1);
        Check.due("place", room.of(6), 5);
        long volume = room.of(5);
        Check.due("volume", volume, 101);
        room.pass(1);
        Check.due("vented", room.of(8), volume);
        // the old gas is gone, and 21 barrels come in as at first
        facts("anew", room, 21, 101, 0);
        room.pass(12);
        long second = room.of(5);
        room.pass(1);
        Check.due("vented twice", room.of(8), volume + second);
        Check.due("lost", room.of(9), 0);
    }

    private static void promise5PassLeastInflow() {
        Check.promise(5, "Lets MINUTES go by");
        Kickroom liquid = Rooms.ready();
        liquid.layer(0, 101, 180, 1000, false);
        liquid.mud(100);
        // the pore is 101 at 10 metres, and 100 the column
        Check.due("one above the other", liquid.drill(20), 10);
        Check.due("liquid", liquid.of(7), 1);
        Check.due("bars()", liquid.bars(), 3);
        Kickroom gas = Rooms.ready();
        gas.layer(0, 10, 180, 0, true);
        gas.mud(0);
        Check.due("gas of the charge 1", gas.drill(20), 1);
        facts("charge 1", gas, 1, 1, 0);
        Check.due("bars()", gas.bars(), 3);
    }

    private static void promise5PassChargeTimesOne() {
        Check.promise(5, "Lets MINUTES go by");
        Kickroom room = Rooms.ready();
        room.layer(0, 100, 180, 1000, true);
        room.drill(100);
        room.mud(0);
        room.pass(12);
        room.mud(120);
        // 12 times 40 barrels came in, times 1; the pressure is 48 at 4 metres
        Check.due("pass(1)", room.pass(1), 10);
        facts("times 1", room, 10, 4, 0);
    }

    private static void promise5PassWithoutBottom() {
        Check.promise(5, "Lets MINUTES go by");
        Kickroom room = Rooms.ready();
        room.layer(0, 100, 180, 1000, true);
        room.drill(30);
        room.mud(0);
        // 31 barrels, times 1; the pressure is 1, and 30 metres are all that there are
        Check.due("pass(1)", room.pass(1), 30);
        facts("first", room, 30, 30, 0);
        Check.due("pressure of the gas", room.pressure(5), 1);
        room.pass(1);
        facts("second", room, 30, 22, 0);
        room.mud(10);
        Check.due("pressure of the gas", room.pressure(5), 22);
        // 62 / 14 = 4, the column is 26, 28 barrels of it come in: (62 + 28 * 26) / 14 = 56
        Check.due("pass(1)", room.pass(1), 30);
        room.mud(300);
        // 790 / 180 = 4 at 6 metres, the column is 780 and holds the pore of 300
        Check.due("pass(1)", room.pass(1), 4);
        facts("last", room, 4, 6, 0);
    }

    private static void promise5PassLiquid() {
        Check.promise(5, "Lets MINUTES go by");
        Kickroom room = Rooms.flooded();
        Check.due("depth", room.of(0), 101);
        Check.due("liquid", room.of(7), 20);
        Check.due("gas", room.of(5), 0);
        Check.due("place", room.of(6), Kickroom.NONE);
        Check.due("bottom", room.pressure(0), (110 * 81 + 100 * 20) / 10);
        Check.due("pass(1)", room.pass(1), 20 + 20);
        Check.due("pass(3)", room.pass(3), 100);
        Check.due("one metre is left", room.pass(1), 101);
        Check.due("pass(9)", room.pass(9), 101);
        Check.due("liquid", room.of(7), 101);
        Check.due("bottom", room.pressure(0), 1010);
        Check.due("vented", room.of(8), 0);
    }

    private static void promise5PassLosesAtShoe() {
        Check.promise(5, "Lets MINUTES go by");
        Kickroom room = Rooms.ready();
        room.layer(0, 100, 110, 10, false);
        room.drill(50);
        room.pass(5);
        Check.due("lost without a shoe", room.of(9), 0);
        room.casing(10);
        room.pass(5);
        Check.due("lost as the foot is the break", room.of(9), 0);
        room.mud(111);
        Check.due("foot", room.pressure(2), 555);
        Check.due("break", room.pressure(3), 550);
        room.pass(3);
        Check.due("lost as the foot is above it", room.of(9), 15);
        room.drill(2);
        Check.due("lost in drilling", room.of(9), 25);
        Check.due("ahead() loses nothing", room.ahead(100), 0);
        Check.due("lost", room.of(9), 25);
        Kickroom shallow = Rooms.drilled(1);
        shallow.casing(1);
        shallow.mud(190);
        shallow.pass(1);
        Check.due("lost at a shoe of 1", shallow.of(9), 5);
    }

    private static void promise5PassFootUnderGas() {
        Check.promise(5, "Lets MINUTES go by");
        Kickroom room = Rooms.ready();
        room.layer(2, 300, 300, 100, true);
        room.mud(100);
        room.drill(111);
        room.casing(10);
        room.drill(100);
        Check.due("depth", room.of(0), 201);
        room.close();
        room.pass(45);
        Check.due("place at the shoe", room.of(6), 111);
        Check.due("foot, gas not above it", room.pressure(2) - room.pressure(4), 1110);
        room.pass(1);
        Check.due("place", room.of(6), 109);
        Check.due("there is gas", room.of(5) > 0, true);
        Check.due("foot, gas above it", room.pressure(2) - room.pressure(4), 10 * (111 - room.of(5)));

        Kickroom small = Rooms.ready();
        small.layer(1, 300, 300, 1000, true);
        small.mud(100);
        small.drill(10);
        small.casing(10);
        small.drill(90);
        small.drill(1);
        small.pass(12);
        Check.due("place", small.of(6), 5);
        Check.due("gas", small.of(5), 101);
        Check.due("foot, all gas", small.pressure(2), 0);
        Check.due("bottom, all gas", small.pressure(0), 0);
    }

    private static void promise5PassToTheEnd() {
        Check.promise(5, "Lets MINUTES go by");
        Kickroom room = Rooms.drilled(10);
        Rooms.passAll(room, 99980);
        Check.due("minutes", room.of(4), 99990);
        room.test(Kickroom.VALVE, 1000);
        Check.due("drill(4)", room.drill(4), 4);
        room.close();
        Check.due("pump(3)", room.pump(3, 110), 3);
        Check.due("pass(3)", room.pass(3), 0);
        Check.due("minutes", room.of(4), 100000);
        room.open();
        Check.due("ahead(2000)", room.ahead(2000), 0);
    }

    private static void promise6Close() {
        Check.promise(6, "Closes THE WELL");
        Kickroom room = Rooms.kicked();
        room.close();
        Check.due("closed", room.of(3), 1);
        facts("closed", room, 21, 101, 0);
        // 21210 / 990 = 21, the column is 800; then 21210 / (970 + 2230) = 6, the column is 950
        Check.due("pass(1)", room.pass(1), 21);
        facts("1", room, 21, 99, 2230);
        Check.due("bottom", room.pressure(0), 3030);
        Check.due("pass(1)", room.pass(1), 6);
        facts("2", room, 6, 97, 2080);
        Check.due("pressure of the gas", room.pressure(5), 970 + 2080);
        room.pass(60);
        Check.due("gas at the top, closed", room.of(6), 0);
        Check.due("not vented", room.of(8), 0);

        Kickroom heavy = Rooms.drilled(100);
        heavy.close();
        heavy.pass(1);
        Check.due("choke, the mud holds", heavy.pressure(4), 0);
        heavy.open();
        heavy.close();
        Check.due("closed", heavy.of(3), 1);
    }

    private static void promise6ValveBreaks() {
        Check.promise(6, "also by a valve that broke");
        Kickroom room = Rooms.kicked();
        room.strength(2230);
        room.close();
        room.pass(1);
        Check.due("not above its strength", room.of(3), 1);
        room.open();
        Kickroom weak = Rooms.kicked();
        weak.strength(2229);
        weak.close();
        // as it breaks, 23 barrels of 800 come in: 21210 + 23 * 800 over 990
        Check.due("pass(1)", weak.pass(1), 40);
        Check.due("broken", weak.of(3), 0);
        facts("broken", weak, 40, 99, 0);
        Check.due("barriers()", weak.barriers(), 0);
        weak.close();
        Check.due("closed, also if it broke", weak.of(3), 1);
    }

    private static void promise7Open() {
        Check.promise(7, "Opens THE WELL");
        Kickroom room = Rooms.kicked();
        room.close();
        room.pass(1);
        Check.due("open()", room.open(), 2230);
        Check.due("open", room.of(3), 0);
        facts("open", room, 21, 99, 0);
        Check.due("bottom", room.pressure(0), 800);
        room.close();
        Check.due("open() at once", room.open(), 0);
    }

    private static void promise8Pump() {
        Check.promise(8, "Pumps mud of a weight round");
        Kickroom room = Rooms.kicked();
        room.close();
        Check.due("pump(1)", room.pump(1, 150), 1);
        facts("1", room, 26, 81, 2280);
        Check.due("pumped", room.of(10), 20);
        Check.due("pump(4)", room.pump(4, 150), 4);
        facts("5", room, 10, 1, 2120);
        Check.due("pumped", room.of(10), 100);
        Check.due("weight", room.of(2), 100);
        Check.due("pump(1)", room.pump(1, 150), 1);
        facts("6", room, 0, Kickroom.NONE, 2020);
        Check.due("vented", room.of(8), 10);
        Check.due("pumped", room.of(10), 0);
        Check.due("weight", room.of(2), 150);
        Check.due("pump(1)", room.pump(1, 150), 1);
        Check.due("choke", room.pressure(4), 1515);
        Check.due("pumped", room.of(10), 20);
        Check.due("minutes", room.of(4), 108);
        Check.due("still closed", room.of(3), 1);

        Kickroom once = Rooms.kicked();
        once.close();
        Check.due("pump(7) at once", once.pump(7, 150), 7);
        Check.due("the same", Probe.played(once), Probe.played(room));

        Kickroom hundred = Rooms.drilled(100);
        hundred.close();
        hundred.pump(4, 120);
        Check.due("80 of 100", hundred.of(2), 110);
        hundred.pump(1, 120);
        Check.due("100 of 100", hundred.of(2), 120);
        Check.due("100 of 100", hundred.of(10), 0);
    }

    private static void promise8PumpLiquid() {
        Check.promise(8, "Pumps mud of a weight round");
        Kickroom room = Rooms.flooded();
        room.close();
        room.pump(5, 300);
        Check.due("liquid", room.of(7), 20);
        Check.due("choke", room.pressure(4), 3030 - 1091);
        room.pump(1, 300);
        Check.due("liquid", room.of(7), 0);
        Check.due("weight", room.of(2), 300);
        Check.due("choke, until a minute goes by", room.pressure(4), 3030 - 1091);
        room.pass(1);
        Check.due("choke", room.open(), 0);
        Check.due("barriers()", room.barriers(), 3);
    }

    private static void promise8PumpAnotherWeight() {
        Check.promise(8, "Pumps mud of a weight round");
        Kickroom room = Rooms.drilled(200);
        room.close();
        room.pump(2, 120);
        Check.due("pumped", room.of(10), 40);
        room.open();
        room.drill(50);
        room.casing(1);
        room.close();
        room.pass(3);
        Check.due("what was pumped stays", room.of(10), 40);
        room.pump(1, 120);
        Check.due("and goes on", room.of(10), 60);
        room.pump(1, 121);
        Check.due("another weight", room.of(10), 20);
        room.pump(1, 120);
        Check.due("the weight before", room.of(10), 20);
        room.open();
        room.mud(110);
        Check.due("mud is told", room.of(10), 0);
        room.close();
        room.pump(1, 120);
        Check.due("from 0 on", room.of(10), 20);
    }

    private static void promise8PumpBreaks() {
        Check.promise(8, "Pumps mud of a weight round");
        Kickroom room = Rooms.kicked();
        room.close();
        room.pump(2, 150);
        Check.due("pumped", room.of(10), 40);
        room.strength(2099);
        // the chokes of these minutes: 2100 is too much for it
        Check.due("pump(5)", room.pump(5, 150), 1);
        Check.due("broken", room.of(3), 0);
        Check.due("pumped", room.of(10), 40);
        Check.due("weight", room.of(2), 100);
        Check.due("minutes", room.of(4), 104);
        Check.due("place", room.of(6), 41);
        Check.due("barriers()", room.barriers(), 0);
        room.close();
        Check.due("pump(5) of another weight", room.pump(5, 151), 1);
        Check.due("pumped", room.of(10), 0);

        Kickroom late = Rooms.kicked();
        late.close();
        late.pump(2, 150);
        late.strength(2105);
        // 2100 holds, 2110 does not
        Check.due("pump(5)", late.pump(5, 150), 2);
        Check.due("pumped", late.of(10), 60);
    }

    private static void promise8PumpLong() {
        Check.promise(8, "Pumps mud of a weight round");
        Kickroom room = Rooms.drilled(100);
        room.close();
        Check.due("pump(500, 0)", room.pump(500, 0), 500);
        Check.due("weight", room.of(2), 0);
        Check.due("pump(500, 300)", room.pump(500, 300), 500);
        Check.due("weight", room.of(2), 300);
    }
}
