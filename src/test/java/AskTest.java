/** Promises 13, 14, 22 and 23: pressures, what is told of THE WELL, the equivalent weight, and ahead. */
public final class AskTest {
    public static void main(String[] args) {
        promise13Pressure();
        promise14Of();
        promise22Equivalent();
        promise23Ahead();
        promise23AheadChangesNothing();
        Check.finish();
    }

    private static void due(String name, Kickroom room, int... pressures) {
        for (int what = 0; what < pressures.length; what++) {
            Check.due(name + ": pressure(" + what + ")", room.pressure(what), pressures[what]);
        }
    }

    private static Kickroom cased() {
        Kickroom room = Rooms.overKick(100, true);
        room.casing(20);
        room.drill(1);
        return room;
    }

    private static void promise13Pressure() {
        Check.promise(13, "Tells a pressure");
        due("7 metres", Rooms.drilled(7), 77, 70, 0, 0, 0, 0);
        Kickroom room = cased();
        // 100 * 80 / 10, 300 * 101 / 10, 100 * 100 / 10, 180 * 100 / 10
        due("gas under the shoe", room, 800, 3030, 1000, 1800, 0, 1010);
        room.close();
        room.pass(1);
        due("gas above the shoe", room, 3030, 3030, 2230 + 790, 1800, 2230, 990 + 2230);
        Check.due("lost", room.of(9), 5);
        room.open();
        due("opened", room, 800, 3030, 790, 1800, 0, 990);
        Kickroom liquid = Rooms.flooded();
        due("liquid", liquid, 1091, 3030, 0, 0, 0, 0);
        layersOfDepths();
    }

    private static void layersOfDepths() {
        Kickroom room = Rooms.ready();
        room.layer(1, 110, 190, 10, false);
        room.drill(100);
        due("at 100", room, 1100, 1000);
        room.drill(1);
        due("at 101", room, 1111, 1111);
        room.casing(1);
        due("shoe at 101", room, 1111, 1111, 1111, 1919);
    }

    private static void promise14Of() {
        Check.promise(14, "Tells of THE WELL");
        Kickroom room = cased();
        room.close();
        room.pass(1);
        long[] closed = {101, 100, 100, 1, 102, 21, 99, 0, 0, 5, 0, 200};
        for (int what = 0; what < closed.length; what++) {
            Check.due("closed of(" + what + ")", room.of(what), closed[what]);
        }
        room.pump(6, 300);
        long[] pumped = {101, 100, 300, 1, 108, 0, Kickroom.NONE, 0, room.of(8), 35, 0, 200};
        for (int what = 0; what < pumped.length; what++) {
            Check.due("pumped of(" + what + ")", room.of(what), pumped[what]);
        }
        Check.due("vented", room.of(8) > 0, true);
        Check.due("liquid", Rooms.flooded().of(7), 20);
    }

    private static void promise22Equivalent() {
        Check.promise(22, "Returns the weight that is as heavy as the FOOT");
        Kickroom none = Rooms.drilled(10);
        none.casing(5);
        Check.due("110", none.equivalent(), 110);
        Kickroom one = Rooms.drilled(1);
        one.casing(5);
        Check.due("shoe of 1", one.equivalent(), 110);
        Kickroom seven = Rooms.drilled(7);
        seven.casing(5);
        seven.mud(113);
        Check.due("790 / 7", seven.equivalent(), 790f / 7f);
        seven.mud(0);
        Check.due("0", seven.equivalent(), 0);
        Kickroom room = cased();
        room.close();
        room.pass(1);
        Check.due("foot of 3020", room.equivalent(), 302);
    }

    private static void promise23Ahead() {
        Check.promise(23, "Returns what pass() would return");
        int[] minutes = {1, 2, 3, 10, 13, 14, 40, 500, 2000};
        for (int count : minutes) {
            Kickroom gas = Rooms.kicked();
            Check.due("gas, open: ahead(" + count + ")", gas.ahead(count), gas.pass(count));
            Kickroom closed = Rooms.kicked();
            closed.close();
            Check.due("gas, closed: ahead(" + count + ")", closed.ahead(count), closed.pass(count));
            Kickroom weak = cased();
            weak.strength(2229);
            weak.close();
            Check.due("gas, breaks: ahead(" + count + ")", weak.ahead(count), weak.pass(count));
            Kickroom liquid = Rooms.flooded();
            Check.due("liquid: ahead(" + count + ")", liquid.ahead(count), liquid.pass(count));
        }
        Kickroom kicked = Rooms.kicked();
        Check.due("ahead(1)", kicked.ahead(1), 42);
        Check.due("ahead(13)", kicked.ahead(13), 21);
        Kickroom pumped = Rooms.kicked();
        pumped.close();
        Check.due("ahead(1), gas", pumped.ahead(1), 21);
        pumped.pump(6, 300);
        Check.due("ahead(1), gas that is pumped out", pumped.ahead(1), 0);
        Rooms.passAll(kicked, 99899);
        Check.due("minutes", kicked.of(4), 100000);
        // it is vented, and comes in anew, every 13 minutes
        Check.due("ahead(13) after the last minute", kicked.ahead(13), kicked.of(5));
        Check.due("ahead(2000) is told", kicked.ahead(2000) > 0, true);
    }

    private static void promise23AheadChangesNothing() {
        Check.promise(23, "asked, which changes nothing");
        Kickroom room = cased();
        room.strength(0);
        room.close();
        room.ahead(2000);
        Kickroom plain = cased();
        plain.strength(0);
        plain.close();
        plain.pass(3);
        room.pass(3);
        Check.due("pass(3) after it", Probe.played(room), Probe.played(plain));
    }
}
