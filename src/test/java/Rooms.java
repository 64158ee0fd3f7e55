/** Wells that several tests begin with. */
final class Rooms {
    private Rooms() {
    }

    /** The valve is tested, so that nothing bars drilling. */
    static Kickroom ready() {
        Kickroom room = new Kickroom();
        room.test(Kickroom.VALVE, 1000);
        return room;
    }

    /** Drilled down to the depth, in the rock that there is at first. */
    static Kickroom drilled(int depth) {
        return deeper(ready(), depth);
    }

    static Kickroom deeper(Kickroom room, int metres) {
        for (int left = metres; left > 0; left -= 500) {
            room.drill(Math.min(left, 500));
        }
        return room;
    }

    /** Mud of 100 over a pore weight of 300 from 100 metres on, the depth is 100. */
    static Kickroom overKick(int rate, boolean bearsGas) {
        Kickroom room = ready();
        room.layer(1, 300, 300, rate, bearsGas);
        room.mud(100);
        room.drill(100);
        return room;
    }

    /** 21 barrels of gas came in at 101 metres: its charge is 21 times 1010. */
    static Kickroom kicked() {
        Kickroom room = overKick(100, true);
        room.drill(50);
        return room;
    }

    /** 20 barrels of liquid came in at 101 metres, into mud of 110. */
    static Kickroom flooded() {
        Kickroom room = ready();
        room.layer(1, 300, 300, 100, false);
        room.drill(500);
        return room;
    }

    static void passAll(Kickroom room, int minutes) {
        for (int left = minutes; left > 0; left -= 2000) {
            room.pass(Math.min(left, 2000));
        }
    }
}
