/** The edges of pumping, promise 8: the document's words on pumping under A MINUTE, one test for each. */
public final class EdgePumpTest {
    public static void main(String[] args) {
        asManyAsTheDepth();
        asManyAsTheDeepest();
        goesOnFrom0();
        minutesLeft();
        weightAndLiquid();
        afterTheMinute();
        stays();
        goesOnDeeper();
        mudIsTold();
        anotherWeight();
        anotherWeightThanTheLatest();
        sameWeightAfterRound();
        goesOnAfterRound();
        breaksAtOnce();
        breaksAsItWouldBeRound();
        breaksLater();
        breaksInTheLastMinute();
        latestPumpingBroke();
        leastAndMost();
        Check.finish();
    }

    private static void due(String name, Kickroom room, int weight, int pumped) {
        Check.due(name + ": weight", room.of(2), weight);
        Check.due(name + ": pumped", room.of(10), pumped);
    }

    /** CLOSED at the depth, over rock that is held by mud of any weight. */
    private static Kickroom closedAt(int depth) {
        Kickroom room = Rooms.ready();
        for (int layer = 0; layer <= (depth - 1) / 100; layer++) {
            room.layer(layer, 0, 300, 10, false);
        }
        return Rooms.closed(Rooms.deeper(room, depth));
    }

    private static Kickroom pumped(int depth, int minutes) {
        Kickroom room = closedAt(depth);
        Check.due("pump(" + minutes + ") at " + depth, room.pump(minutes, 120), minutes);
        return room;
    }

    private static void asManyAsTheDepth() {
        Check.promise(8, "if as many as the depth, or more, are pumped by that, the mud has the new weight");
        due("20 at 1", pumped(1, 1), 120, 0);
        due("20 at 19", pumped(19, 1), 120, 0);
        due("20 at 20", pumped(20, 1), 120, 0);
        due("20 at 21", pumped(21, 1), 110, 20);
        due("40 at 21", pumped(21, 2), 120, 0);
        due("40 at 39", pumped(39, 2), 120, 0);
        due("40 at 40", pumped(40, 2), 120, 0);
        due("40 at 41", pumped(41, 2), 110, 40);
        due("60 at 41", pumped(41, 3), 120, 0);
    }

    private static void asManyAsTheDeepest() {
        Check.promise(8, "if as many as the depth, or more, are pumped by that; the deepest depth");
        due("4980 at 5000", pumped(5000, 249), 110, 4980);
        due("5000 at 5000", pumped(5000, 250), 120, 0);
        due("4980 at 4980", pumped(4980, 249), 120, 0);
        due("4980 at 4981", pumped(4981, 249), 110, 4980);
    }

    private static void goesOnFrom0() {
        Check.promise(8, "the metres that are pumped are 0, from where pumping goes on in the MINUTES that are left");
        // 40 at 30 metres are 10 more than it takes, which do not count
        due("2 MINUTES at 30", pumped(30, 2), 120, 0);
        due("3 MINUTES at 30", pumped(30, 3), 120, 20);
        due("4 MINUTES at 30", pumped(30, 4), 120, 0);
        due("7 MINUTES at 60", pumped(60, 7), 120, 20);
        due("500 MINUTES at 1", pumped(1, 500), 120, 0);
        due("500 MINUTES at 5000", pumped(5000, 500), 120, 0);
    }

    private static void minutesLeft() {
        Check.promise(8, "is, for each MINUTE, to let it go by; returns how many MINUTES went by");
        Kickroom room = closedAt(30);
        Check.due("pump(1)", room.pump(1, 120), 1);
        Check.due("MINUTES", room.of(4), 31);
        Check.due("pump(500)", room.pump(500, 120), 500);
        Check.due("MINUTES", room.of(4), 531);
        Check.due("still CLOSED", room.of(3), 1);
    }

    private static void weightAndLiquid() {
        Check.promise(8, "the volume of the LIQUID is 0");
        Kickroom room = Rooms.closed(Rooms.flooded());
        room.pump(5, 300);
        due("100 at 101", room, 110, 100);
        Check.due("100 at 101: liquid", room.of(7), 20);
        room.pump(1, 300);
        due("120 at 101", room, 300, 0);
        Check.due("120 at 101: liquid", room.of(7), 0);
        Check.due("ahead(1)", room.ahead(1), 0);
        room.open();
        Check.due("bars()", room.bars(), 0);
    }

    private static void afterTheMinute() {
        Check.promise(8, "for each MINUTE, to let it go by; then 20 metres more are pumped");
        // the MINUTE goes by with the mud, and the liquid, that were there before
        Kickroom room = Rooms.closed(Rooms.flooded());
        room.pump(6, 300);
        Check.due("CHOKE of the old mud and the liquid", room.pressure(4), 3030 - (110 * 81 + 2000) / 10);
        room.pump(1, 300);
        Check.due("CHOKE of the new mud", room.pressure(4), 0);
    }

    private static void stays() {
        Check.promise(8, "What was pumped stays as pumping ends, and goes on .., whatever is done between");
        Kickroom room = closedAt(200);
        room.pump(2, 120);
        Check.due("as pumping ends", room.of(10), 40);
        room.pass(5);
        room.open();
        Check.due("opened", room.of(10), 40);
        room.test(Kickroom.VALVE, 1000);
        room.strength(5000);
        room.stop(1, true);
        room.stop(1, false);
        room.layer(9, 120, 150, 20, true);
        room.drill(10);
        room.casing(10);
        room.test(Kickroom.CEMENT, 1000);
        room.ahead(30);
        Check.due("much was done", room.of(10), 40);
        room.close();
        Check.due("closed", room.of(10), 40);
        room.pump(1, 120);
        Check.due("it goes on", room.of(10), 60);
    }

    private static void goesOnDeeper() {
        Check.promise(8, "goes on as mud of the same weight is pumped next, by the depth that there is then");
        Kickroom room = closedAt(40);
        room.pump(1, 120);
        room.open();
        room.drill(1);
        room.close();
        room.pump(1, 120);
        due("40 at 41", room, 110, 40);
        room.pump(1, 120);
        due("60 at 41", room, 120, 0);
    }

    private static void mudIsTold() {
        Check.promise(8, "it is 0 as mud is told");
        for (int weight : new int[] {0, 110, 120, 300}) {
            Kickroom room = pumped(200, 2);
            room.open();
            room.mud(weight);
            Check.due("mud(" + weight + ")", room.of(10), 0);
            room.close();
            room.pump(1, 120);
            Check.due("from 0 on", room.of(10), 20);
        }
    }

    private static void anotherWeight() {
        Check.promise(8, "it is 0 .. as pumping begins with another weight than that of the latest pumping");
        for (int weight : new int[] {0, 110, 119, 121, 300}) {
            Kickroom room = pumped(200, 2);
            room.pump(1, weight);
            due("pump(1, " + weight + ")", room, 110, 20);
        }
        Kickroom same = pumped(200, 2);
        same.pump(1, 120);
        due("pump(1, 120)", same, 110, 60);
    }

    private static void anotherWeightThanTheLatest() {
        Check.promise(8, "another weight than that of the latest pumping, not of one before");
        Kickroom room = pumped(200, 2);
        room.pump(1, 121);
        room.pump(1, 120);
        due("120, 121, 120", room, 110, 20);
        room.pump(1, 120);
        due("120 again", room, 110, 40);
        Kickroom zero = closedAt(200);
        zero.pump(1, 0);
        zero.pump(1, 0);
        due("mud of 0", zero, 110, 40);
    }

    private static void sameWeightAfterRound() {
        Check.promise(8, "the latest pumping, also one that went round, and before which mud was told");
        Kickroom room = pumped(40, 2);
        room.pump(1, 120);
        due("went round", room, 120, 20);
        room.open();
        room.mud(130);
        room.close();
        room.pump(1, 120);
        due("the same after mud", room, 130, 20);
        room.pump(1, 120);
        due("round again", room, 120, 0);
    }

    /** CLOSED over a PORE of 10 times the depth; 20 metres of mud of 120 are pumped, the valve has no strength. */
    private static Kickroom weak(int depth, boolean bearsGas) {
        Kickroom room = Rooms.over(depth, 100, 0, bearsGas);
        room.mud(99);
        room.close();
        room.pump(1, 120);
        room.strength(0);
        return room;
    }

    private static void goesOnAfterRound() {
        Check.promise(8, "goes on as mud of the same weight is pumped next, also if it went round in the latest");
        Kickroom room = pumped(50, 4);
        due("round, and 20", room, 120, 20);
        room.pump(1, 120);
        due("and 20 more", room, 120, 40);
        room.pump(1, 120);
        due("round again", room, 120, 0);
    }

    private static void breaksAtOnce() {
        Check.promise(8, "If the valve breaks in a MINUTE of pumping, nothing is pumped in it, and pumping ends");
        Kickroom room = weak(90, false);
        long minutes = room.of(4);
        Check.due("pump(500)", room.pump(500, 120), 1);
        due("nothing is pumped", room, 99, 20);
        Check.due("MINUTES", room.of(4), minutes + 1);
        Check.due("broken", room.of(3), 0);
        Check.due("barriers()", room.barriers(), 0);
        Check.due("liquid", room.of(7), 1);
        room.close();
        room.strength(10000);
        Check.due("pump(1)", room.pump(1, 120), 1);
        due("it goes on", room, 99, 40);
    }

    private static void breaksAsItWouldBeRound() {
        Check.promise(8, "nothing is pumped in it, though that would be as many as the depth");
        for (int depth : new int[] {21, 40}) {
            Kickroom room = weak(depth, false);
            Check.due("pump(2) at " + depth, room.pump(2, 120), 1);
            due("at " + depth, room, 99, 20);
            Check.due("liquid at " + depth, room.of(7), 1);
        }
    }

    private static void breaksLater() {
        Check.promise(8, "If the valve breaks in a MINUTE of pumping .. pumping ends; MINUTES that went by");
        // mud of 99 is in for 2 MINUTES, and mud of 0 from the third one on, whose CHOKE of 400 is too much
        Kickroom room = Rooms.over(40, 100, 0, true);
        room.mud(99);
        room.strength(399);
        room.close();
        Check.due("pump(10)", room.pump(10, 0), 3);
        due("round, then broken", room, 0, 0);
        Check.due("broken", room.of(3), 0);
        Check.due("gas", room.of(5), 1);
    }

    private static void breaksInTheLastMinute() {
        Check.promise(8, "If the valve breaks in a MINUTE of pumping, which is the last one that was asked");
        Kickroom room = Rooms.over(40, 100, 0, true);
        room.mud(99);
        room.strength(399);
        room.close();
        Check.due("pump(3)", room.pump(3, 0), 3);
        due("broken", room, 0, 0);
        Check.due("broken", room.of(3), 0);
        Kickroom holds = Rooms.over(40, 100, 0, true);
        holds.mud(99);
        holds.strength(400);
        holds.close();
        Check.due("pump(3), it holds", holds.pump(3, 0), 3);
        due("holds", holds, 0, 20);
        Check.due("CLOSED", holds.of(3), 1);
    }

    private static void latestPumpingBroke() {
        Check.promise(8, "as pumping begins with another weight, though the valve breaks in its first MINUTE");
        Kickroom room = weak(90, false);
        Check.due("pump(5, 121)", room.pump(5, 121), 1);
        due("0 as it began", room, 99, 0);
        room.close();
        room.strength(10000);
        room.pump(2, 121);
        due("121", room, 99, 40);
        room.pump(1, 121);
        due("121 again", room, 99, 60);
    }

    private static void leastAndMost() {
        Check.promise(8, "minutes: 1 to 500, weight: 0 to 300");
        Kickroom room = closedAt(20);
        room.pump(1, 0);
        due("0", room, 0, 0);
        room.pump(500, 300);
        due("300", room, 300, 0);
    }
}
