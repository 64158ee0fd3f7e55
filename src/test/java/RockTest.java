/** Promises 1, 2 and 18 to 21: a new object, layers, kill weights, windows, casings. */
public final class RockTest {
    public static void main(String[] args) {
        promise1NewObject();
        promise2Layer();
        promise2LayerDrilledInto();
        promise18KillWeight();
        promise19Window();
        promise20And21Casings();
        Check.finish();
    }

    private static void promise1NewObject() {
        Check.promise(1, "Begins with rock as it is at first, and a well of the depth 0");
        Kickroom room = new Kickroom();
        long[] facts = {0, 0, 110, 0, 0, 0, Kickroom.NONE, 0, 0, 0, 0, 0};
        for (int what = 0; what < facts.length; what++) {
            Check.due("new of(" + what + ")", room.of(what), facts[what]);
        }
        for (int what = 0; what <= 5; what++) {
            Check.due("new pressure(" + what + ")", room.pressure(what), 0);
        }
        for (int from = 0; from < 5000; from += 50) {
            Check.due("new window pore", room.window(from, from + 1, false), 100);
            Check.due("new window break", room.window(from, from + 1, true), 180);
        }
        Check.due("new barriers()", room.barriers(), 1);
        Check.due("new bars()", room.bars(), 4);
        Check.due("new stop()", room.stop(0, false), 0);
        Check.due("new strength()", room.strength(10000), 10000);
        Check.due("NONE", Kickroom.NONE, -1);
        Check.due("VALVE", Kickroom.VALVE, 0);
        Check.due("CEMENT", Kickroom.CEMENT, 1);
        new Kickroom().layer(0, 1, 2, 3, true);
        Check.due("another object's layer", room.window(0, 1, false), 100);
        firstRateAndKind();
    }

    /** At 999 and 1000 metres of mud of 0 the pores of 9990 and 10000 bring 1 + 9 and 1 + 10 barrels of liquid. */
    private static void firstRateAndKind() {
        Kickroom room = Rooms.drilled(999);
        room.mud(0);
        Check.due("first rate at 999", room.ahead(1), 10);
        room.mud(110);
        room.drill(1);
        room.mud(0);
        Check.due("first rate at 1000", room.pass(1), 11);
        Check.due("first kind", room.of(7), 11);
    }

    private static void promise2Layer() {
        Check.promise(2, "Tells a LAYER");
        Kickroom room = new Kickroom();
        room.layer(0, 0, 300, 1000, true);
        room.layer(49, 300, 0, 0, false);
        room.layer(7, 123, 145, 500, true);
        Check.due("layer 0 pore", room.window(0, 100, false), 0);
        Check.due("layer 0 break", room.window(0, 100, true), 300);
        Check.due("layer 49 pore", room.window(4900, 5000, false), 300);
        Check.due("layer 49 break", room.window(4900, 5000, true), 0);
        Check.due("layer 7 pore", room.window(700, 701, false), 123);
        Check.due("layer 7 break", room.window(799, 800, true), 145);
        Check.due("layer 6 pore", room.window(600, 700, false), 100);
        Check.due("layer 8 pore", room.window(800, 900, false), 100);
        room.layer(7, 124, 144, 500, true);
        Check.due("layer 7 told anew", room.window(700, 701, false), 124);
        Check.due("rate 100", Rooms.overKick(100, true).ahead(1), 0);
        Check.due("rate 100, gas", Rooms.kicked().of(5), 21);
        Check.due("rate 100, no liquid", Rooms.kicked().of(7), 0);
        Check.due("rate 100, liquid", Rooms.flooded().of(7), 20);
        Check.due("rate 100, no gas", Rooms.flooded().of(5), 0);
        // at 101 metres the pore is 2020 above the bottom
        Check.due("rate 0", inflowAt(0), 1);
        Check.due("rate 4", inflowAt(4), 1);
        Check.due("rate 5", inflowAt(5), 2);
        Check.due("rate 193", inflowAt(193), 39);
        Check.due("rate 194", inflowAt(194), 40);
        Check.due("rate 1000", inflowAt(1000), 40);
        // under mud of 210 it is 909 above: 9999 and 10908 are divided by 10000
        Check.due("rate 11, heavier mud", inflowUnder210(11), 1);
        Check.due("rate 12, heavier mud", inflowUnder210(12), 2);
    }

    private static long inflowAt(int rate) {
        Kickroom room = Rooms.overKick(rate, true);
        room.drill(1);
        return room.of(5);
    }

    private static long inflowUnder210(int rate) {
        Kickroom room = Rooms.overKick(rate, true);
        room.mud(210);
        room.drill(1);
        return room.of(5);
    }

    private static void promise2LayerDrilledInto() {
        Check.promise(2, "Tells a LAYER");
        Kickroom room = Rooms.ready();
        room.layer(0, 90, 170, 20, true);
        Check.due("at 0", room.window(0, 1, false), 90);
        room.drill(1);
        room.drill(99);
        room.layer(1, 91, 171, 21, true);
        Check.due("at 100, layer 1", room.window(100, 101, false), 91);
        room.drill(1);
        room.layer(2, 92, 172, 22, true);
        Check.due("at 101, layer 2", room.window(200, 201, false), 92);
    }

    private static void promise18KillWeight() {
        Check.promise(18, "Returns the kill weight");
        Check.due("kill 100", Rooms.drilled(100).killWeight(), 100);
        Check.due("kill at 101", Rooms.kicked().killWeight(), 300);
        // the pores are 30, 70, 94 and 0
        Check.due("kill 101 at 3", killWeight(101, 3), 100);
        Check.due("kill 101 at 7", killWeight(101, 7), 100);
        Check.due("kill 105 at 9", killWeight(105, 9), 105);
        Check.due("kill 0 at 9", killWeight(0, 9), 0);
        Check.due("kill 9 at 1", killWeight(9, 1), 0);
    }

    private static int killWeight(int pore, int depth) {
        Kickroom room = Rooms.ready();
        room.layer(0, pore, 300, 10, false);
        room.drill(depth);
        return room.killWeight();
    }

    private static void promise19Window() {
        Check.promise(19, "Tells of a window");
        Kickroom room = new Kickroom();
        room.layer(0, 110, 170, 10, false);
        room.layer(1, 130, 160, 10, false);
        room.layer(2, 120, 150, 10, false);
        room.layer(49, 90, 200, 10, false);
        Check.due("0 to 100, low", room.window(0, 100, false), 110);
        Check.due("0 to 101, low", room.window(0, 101, false), 130);
        Check.due("0 to 100, high", room.window(0, 100, true), 170);
        Check.due("0 to 101, high", room.window(0, 101, true), 160);
        Check.due("99 to 300, high", room.window(99, 300, true), 150);
        Check.due("99 to 300, low", room.window(99, 300, false), 130);
        Check.due("100 to 200, low", room.window(100, 200, false), 130);
        Check.due("200 to 300, low", room.window(200, 300, false), 120);
        Check.due("199 to 300, low", room.window(199, 300, false), 130);
        Check.due("4999 to 5000, low", room.window(4999, 5000, false), 90);
        Check.due("4899 to 5000, low", room.window(4899, 5000, false), 100);
        Check.due("4900 to 5000, high", room.window(4900, 5000, true), 200);
        Check.due("0 to 5000, low", room.window(0, 5000, false), 130);
        Check.due("0 to 5000, high", room.window(0, 5000, true), 150);
    }

    private static void promise20And21Casings() {
        Check.promise(20, "Returns the casings for a depth");
        Kickroom room = new Kickroom();
        casings(room, 1, 1);
        casings(room, 5000, 1);
        room.layer(0, 100, 120, 10, false);
        room.layer(1, 120, 130, 10, false);
        room.layer(2, 125, 125, 10, false);
        room.layer(3, 130, 150, 10, false);
        room.layer(4, 90, 129, 10, false);
        room.layer(5, 110, 200, 10, false);
        casings(room, 100, 1);
        casings(room, 200, 1);
        casings(room, 201, 2);
        casings(room, 300, 2);
        casings(room, 301, 3);
        casings(room, 400, 3);
        casings(room, 401, 4);
        casings(room, 600, 4);
        casings(room, 5000, 4);
        room.layer(3, 124, 150, 10, false);
        casings(room, 301, 2);
        room.layer(2, 121, 122, 10, false);
        casings(room, 301, 3);
        room.layer(2, 121, 140, 10, false);
        casings(room, 401, 2);
        room.layer(20, 151, 150, 10, false);
        casings(room, 2000, 2);
        casings(room, 2001, Kickroom.NONE);
        casings(room, 5000, Kickroom.NONE);
        for (int layer = 0; layer < 50; layer++) {
            room.layer(layer, layer * 6, layer * 6, 10, false);
        }
        casings(room, 5000, 50);
        casings(room, 4900, 49);
        room.layer(0, 1, 0, 10, false);
        casings(room, 1, Kickroom.NONE);
        casings(room, 101, Kickroom.NONE);
    }

    private static void casings(Kickroom room, int to, int want) {
        Check.due("casings(" + to + ")", room.casings(to), want);
        Check.due("casingsAnew(" + to + ")", room.casingsAnew(to), want);
    }
}
