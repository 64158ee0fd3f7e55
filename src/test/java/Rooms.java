/** Wells that several tests begin with. */
final class Rooms {
    private Rooms() {
    }

    /** The valve is tested, so that nothing bars drilling. */
    static Kickroom ready() {
        Kickroom room = new Kickroom();
        room.test(Kickroom.VALVE, 1000);
        return room;
    }

    /** Drilled down to the depth, in the rock that there is at first. */
    static Kickroom drilled(int depth) {
        return deeper(ready(), depth);
    }

    static Kickroom deeper(Kickroom room, int metres) {
        for (int left = metres; left > 0; left -= 500) {
            room.drill(Math.min(left, 500));
        }
        return room;
    }

    /** Mud of 100 over a pore weight of 300 from 100 metres on, the depth is 100. */
    static Kickroom overKick(int rate, boolean bearsGas) {
        Kickroom room = ready();
        room.layer(1, 300, 300, rate, bearsGas);
        room.mud(100);
        room.drill(100);
        return room;
    }

    /** 21 barrels of gas came in at 101 metres: its charge is 21 times 1010. */
    static Kickroom kicked() {
        Kickroom room = overKick(100, true);
        room.drill(50);
        return room;
    }

    /** 20 barrels of liquid came in at 101 metres, into mud of 110. */
    static Kickroom flooded() {
        Kickroom room = ready();
        room.layer(1, 300, 300, 100, false);
        room.drill(500);
        return room;
    }

    /** The LAYER of the depth is as told, and mud of 300 keeps all out that is in it. */
    static Kickroom over(int depth, int pore, int rate, boolean bearsGas) {
        Kickroom room = ready();
        room.layer((depth - 1) / 100, pore, 300, rate, bearsGas);
        room.mud(300);
        return deeper(room, depth);
    }

    /** A GAS of the charge 1, and of the volume 1, at the depth, under mud of 0 that is 300 then. */
    static Kickroom bubble(int depth) {
        return kick(over(depth, 100, 0, true), 0);
    }

    /** A GAS of the charge 1 that has no volume, at 12 metres of 20. */
    static Kickroom shrunken() {
        return passed(bubble(20), 1);
    }

    /** One MINUTE goes by under mud of that weight; it is 300 then. */
    static Kickroom kick(Kickroom room, int weight) {
        room.mud(weight);
        room.pass(1);
        room.mud(300);
        return room;
    }

    /** The valve breaks in the next MINUTE, for no mud holds the PORE and the valve has no strength. */
    static Kickroom weak(Kickroom room) {
        room.mud(0);
        room.strength(0);
        room.close();
        return room;
    }

    static Kickroom cased(int depth, int barrels) {
        Kickroom room = drilled(depth);
        room.casing(barrels);
        return room;
    }

    /** So many tests of the valve and the cement, in turns; all are PASSED. */
    static Kickroom tested(int count) {
        Kickroom room = cased(10, 100);
        for (int test = 1; test < count; test++) {
            room.test(test % 2, 1000 + test);
        }
        return room;
    }

    static Kickroom withMud(Kickroom room, int weight) {
        room.mud(weight);
        return room;
    }

    static Kickroom passed(Kickroom room, int minutes) {
        room.pass(minutes);
        return room;
    }

    static Kickroom closed(Kickroom room) {
        room.close();
        return room;
    }

    static Kickroom opened(Kickroom room) {
        room.open();
        return room;
    }

    /** The GAS of kicked(), OPEN by a valve that broke. */
    static Kickroom broken() {
        Kickroom room = kicked();
        room.strength(0);
        room.close();
        room.pass(1);
        return room;
    }

    /** The mud is too light and the test of the valve FAILED, so that there is no BARRIER. */
    static Kickroom withoutBarrier() {
        Kickroom room = drilled(100);
        room.mud(50);
        room.test(Kickroom.VALVE, 10001);
        return room;
    }

    /** There is something of all but GAS, LIQUID and CHOKE: 199 metres, a SHOE, tests, 40 metres are pumped. */
    static Kickroom busy() {
        Kickroom room = ready();
        room.layer(2, 300, 300, 100, true);
        room.drill(50);
        room.casing(100);
        room.test(Kickroom.CEMENT, 1500);
        room.drill(149);
        room.strength(9000);
        room.close();
        room.pump(2, 120);
        room.open();
        return room;
    }

    /** As busy(), with a STOP, and at 201 metres with a GAS and a CHOKE; CLOSED. */
    static Kickroom busyClosed() {
        Kickroom room = deeper(busy(), 2);
        room.stop(4, true);
        room.close();
        room.pass(3);
        return room;
    }

    static Kickroom passAll(Kickroom room, int minutes) {
        for (int left = minutes; left > 0; left -= 2000) {
            room.pass(Math.min(left, 2000));
        }
        return room;
    }
}
