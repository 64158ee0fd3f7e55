import java.util.function.Supplier;

/** The edges of what is in THE WELL: the document's words under THE WELL, one test for each. */
public final class EdgeWellTest {
    public static void main(String[] args) {
        promise13ColumnNotAbove();
        promise13ColumnOfLiquid();
        promise13ColumnRoundedDown();
        promise13BottomWithChoke();
        promise13GasPressureLeast();
        promise13GasPressureRoundedDown();
        promise13GasPressureWithChoke();
        promise13GasPressureWithout();
        promise14GasByItsCharge();
        promise14PlaceNone();
        promise14VolumeRoundedDown();
        promise14VolumeAtMost();
        promise13FootPlaceAtShoe();
        promise13FootVolumeAtShoe();
        promise13FootOfGasWithoutVolume();
        promise13FootOfLiquid();
        promise13FootWithoutShoe();
        promise13FootRoundedDown();
        promise13FootWithChoke();
        promise14Full();
        promise14Closed();
        promise13AskedChangesNothing();
        promise22EquivalentNotRounded();
        promise22EquivalentEnds();
        Check.finish();
    }

    private static void promise13ColumnNotAbove() {
        Check.promise(13, "times what the depth is above both volumes together");
        // 1 barrel of gas: at 1 metre there is nothing above it, at 2 metres 1 metre, at 3 metres 2
        Check.due("gas, volume 1 of 1", Rooms.bubble(1).pressure(0), 0);
        Check.due("gas, volume 1 of 2", Rooms.bubble(2).pressure(0), 30);
        Check.due("gas, volume 1 of 3", Rooms.bubble(3).pressure(0), 60);
        // 40 barrels would come in, but all that there is room for are these metres
        Kickroom full = Rooms.kick(Rooms.over(20, 300, 1000, true), 0);
        Check.due("gas, volume", full.of(5), 20);
        Check.due("gas, volume 20 of 20", full.pressure(0), 0);
        Kickroom none = Rooms.over(20, 300, 1000, true);
        Check.due("without", none.pressure(0), 600);
    }

    private static void promise13ColumnOfLiquid() {
        Check.promise(13, "and 100 times the volume of the LIQUID, these two added");
        Kickroom one = Rooms.kick(Rooms.over(1, 100, 0, false), 0);
        Check.due("liquid", one.of(7), 1);
        Check.due("liquid, volume 1 of 1", one.pressure(0), 10);
        Check.due("liquid, volume 1 of 2", Rooms.kick(Rooms.over(2, 100, 0, false), 0).pressure(0), 40);
        Kickroom full = Rooms.kick(Rooms.over(20, 300, 1000, false), 0);
        Check.due("liquid, volume 20 of 20", full.pressure(0), 200);
        full.mud(0);
        Check.due("whatever the mud", full.pressure(0), 200);
        Kickroom some = Rooms.kick(Rooms.over(20, 30, 1000, false), 0);
        // 1 + 60 / 10 = 7 barrels
        Check.due("liquid, volume 7 of 20", some.pressure(0), 300 * 13 / 10 + 70);
        some.mud(111);
        Check.due("(1443 + 700) / 10", some.pressure(0), 214);
    }

    private static void promise13ColumnRoundedDown() {
        Check.promise(13, "and divided by 10; rounded down");
        int[][] columns = {{0, 1, 0}, {9, 1, 0}, {10, 1, 1}, {19, 1, 1}, {20, 1, 2}, {111, 9, 99}, {111, 10, 111},
            {299, 1, 29}, {300, 1, 30}, {300, 100, 3000}};
        for (int[] at : columns) {
            Kickroom room = Rooms.drilled(at[1]);
            room.mud(at[0]);
            Check.due("mud of " + at[0] + " at " + at[1], room.pressure(0), at[2]);
        }
    }

    private static void promise13BottomWithChoke() {
        Check.promise(13, "The BOTTOM is the COLUMN and the CHOKE, together");
        Kickroom room = Rooms.over(10, 100, 0, true);
        room.mud(93);
        room.close();
        Check.due("no CHOKE yet", room.pressure(0), 93);
        room.pass(1);
        Check.due("CHOKE", room.pressure(4), 7);
        Check.due("BOTTOM", room.pressure(0), 100);
        room.open();
        Check.due("BOTTOM, OPEN", room.pressure(0), 93);
    }

    private static void promise13GasPressureLeast() {
        Check.promise(13, "the weight, times its place, divided by 10 .., but at least 1");
        int[][] pressures = {{0, 1}, {1, 1}, {9, 1}, {10, 1}, {19, 1}, {20, 2}, {300, 30}};
        for (int[] at : pressures) {
            Kickroom room = Rooms.bubble(1);
            room.mud(at[0]);
            Check.due("mud of " + at[0] + " over a place of 1", room.pressure(5), at[1]);
        }
        Kickroom top = Rooms.closed(Rooms.bubble(2));
        Check.due("volume at the top", top.pass(1), 1);
        Check.due("place", top.of(6), 0);
        Check.due("at a place of 0", top.pressure(5), 1);
    }

    private static void promise13GasPressureRoundedDown() {
        Check.promise(13, "the weight, times its place, divided by 10; rounded down");
        int[][] pressures = {{109, 98}, {110, 99}, {111, 99}, {112, 100}};
        for (int[] at : pressures) {
            Kickroom room = Rooms.bubble(9);
            room.mud(at[0]);
            Check.due("mud of " + at[0] + " over a place of 9", room.pressure(5), at[1]);
        }
    }

    private static void promise13GasPressureWithChoke() {
        Check.promise(13, "and the CHOKE, together");
        Kickroom room = Rooms.bubble(2);
        room.mud(0);
        room.close();
        // the PORE is 20 and all is gas or mud of 0
        room.pass(1);
        Check.due("CHOKE", room.pressure(4), 20);
        Check.due("at a place of 0", room.pressure(5), 20);
        Kickroom low = Rooms.bubble(30);
        low.mud(50);
        low.close();
        low.pass(1);
        Check.due("place", low.of(6), 28);
        Check.due("CHOKE, without a volume", low.pressure(4), 150);
        Check.due("at a place of 28", low.pressure(5), 140 + 150);
    }

    private static void promise13GasPressureWithout() {
        Check.promise(13, "5 the pressure of the GAS, 0 without");
        Check.due("new", new Kickroom().pressure(5), 0);
        Check.due("no GAS", Rooms.drilled(100).pressure(5), 0);
        Check.due("a LIQUID", Rooms.flooded().pressure(5), 0);
        Kickroom gone = Rooms.bubble(8);
        Check.due("a GAS", gone.pressure(5), 240);
        gone.pass(1);
        Check.due("the GAS is gone", gone.pressure(5), 0);
    }

    private static void promise14GasByItsCharge() {
        Check.promise(14, "There is a GAS if its charge is above 0");
        Kickroom room = Rooms.bubble(20);
        Check.due("volume", room.of(5), 1);
        Check.due("place", room.of(6), 20);
        Check.due("pass(1)", room.pass(1), 0);
        Check.due("no volume", room.of(5), 0);
        Check.due("a place", room.of(6), 12);
        Check.due("a pressure", room.pressure(5), 360);
        Check.due("bars()", room.bars(), 3);
        Check.due("barriers()", room.barriers(), 2);
        room.mud(0);
        room.close();
        Check.due("it has its charge of 1", room.pass(1), 1);
    }

    private static void promise14PlaceNone() {
        Check.promise(14, "6 its place, NONE without one");
        Check.due("new", new Kickroom().of(6), Kickroom.NONE);
        Check.due("a LIQUID", Rooms.flooded().of(6), Kickroom.NONE);
        Kickroom room = Rooms.bubble(1);
        Check.due("at 1", room.of(6), 1);
        room.close();
        room.pass(1);
        Check.due("at 0", room.of(6), 0);
        room.open();
        Check.due("at 0, OPEN", room.of(6), 0);
        room.pass(1);
        Check.due("gone", room.of(6), Kickroom.NONE);
        Check.due("deepest", Rooms.bubble(5000).of(6), 5000);
    }

    private static void promise14VolumeRoundedDown() {
        Check.promise(14, "To measure the GAS makes its volume its charge, divided by its pressure; rounded down");
        // the pressure at the place of 8 is 8 times the weight, divided by 10, but at least 1
        int[][] volumes = {{0, 30}, {2, 30}, {3, 15}, {4, 10}, {5, 7}, {7, 6}, {13, 3}, {14, 2}, {19, 2}, {20, 1},
            {38, 1}, {39, 0}, {300, 0}};
        for (int[] at : volumes) {
            Kickroom room = risen();
            room.mud(at[0]);
            room.close();
            room.pass(1);
            Check.due("place", room.of(6), 8);
            Check.due("mud of " + at[0], room.of(5), at[1]);
        }
    }

    /** A GAS of the charge 30 at 10 metres. */
    private static Kickroom risen() {
        Kickroom room = Rooms.over(100, 30, 967, true);
        // 1 + 300 * 967 / 10000 = 30 barrels of the BOTTOM of 0
        Rooms.kick(room, 0);
        room.pass(11);
        room.close();
        room.pass(1);
        room.open();
        return room;
    }

    private static void promise14VolumeAtMost() {
        Check.promise(14, "but at most the depth less the volume of the LIQUID");
        // 1, 2, 3 and 40 barrels of the BOTTOM of 0 come in at 2 metres, where the PORE is 60
        Check.due("charge 1", Rooms.kick(Rooms.over(2, 300, 166, true), 0).of(5), 1);
        Check.due("charge 2", Rooms.kick(Rooms.over(2, 300, 167, true), 0).of(5), 2);
        Check.due("charge 3", Rooms.kick(Rooms.over(2, 300, 334, true), 0).of(5), 2);
        Check.due("charge 7", Rooms.kick(Rooms.over(2, 300, 1000, true), 0).of(5), 2);
        Check.due("charge 1 at 1", Rooms.kick(Rooms.over(1, 300, 0, true), 0).of(5), 1);
        Check.due("charge 4 at 1", Rooms.kick(Rooms.over(1, 300, 1000, true), 0).of(5), 1);
        Kickroom room = Rooms.over(39, 300, 1000, true);
        Check.due("charge 40 at 39", Rooms.kick(room, 0).of(5), 39);
        Check.due("charge 40 at 40", Rooms.kick(Rooms.over(40, 300, 1000, true), 0).of(5), 40);
        Check.due("charge 40 at 41", Rooms.kick(Rooms.over(41, 300, 1000, true), 0).of(5), 40);
    }

    /** 7 barrels of gas came in at 60 metres under mud of 0, below a SHOE that is as deep as told. */
    private static Kickroom gasBelow(int shoe) {
        Kickroom room = Rooms.ready();
        room.layer(0, 100, 300, 100, true);
        room.mud(300);
        room.drill(shoe);
        room.casing(1);
        Rooms.deeper(room, 60 - shoe);
        return Rooms.kick(room, 0);
    }

    private static void promise13FootPlaceAtShoe() {
        Check.promise(13, "if there is a GAS with a place less than the SHOE");
        for (int shoe : new int[] {51, 52, 53, 59}) {
            Kickroom room = gasBelow(shoe);
            Check.due("foot, place 60, SHOE " + shoe, room.pressure(2), 30 * shoe);
            room.mud(0);
            room.pass(1);
            room.mud(300);
            Check.due("place", room.of(6), 52);
            Check.due("volume", room.of(5), 14);
            Check.due("foot, place 52, SHOE " + shoe, room.pressure(2), shoe > 52 ? 30 * (shoe - 14) : 30 * shoe);
        }
    }

    private static void promise13FootVolumeAtShoe() {
        Check.promise(13, "the weight times what the SHOE is above its volume, 0 if it is not above it");
        int[][] shoes = {{10, 0}, {55, 0}, {56, 0}, {57, 30}, {58, 60}};
        for (int[] at : shoes) {
            Kickroom room = gasBelow(at[0]);
            room.mud(0);
            room.pass(7);
            room.mud(300);
            Check.due("place", room.of(6), 4);
            Check.due("volume", room.of(5), 56);
            Check.due("foot, SHOE " + at[0], room.pressure(2), at[1]);
        }
    }

    private static void promise13FootOfGasWithoutVolume() {
        Check.promise(13, "or, if there is a GAS .., the weight times what the SHOE is above its volume");
        Kickroom room = Rooms.drilled(50);
        room.casing(1);
        room.layer(1, 300, 300, 0, true);
        room.mud(300);
        room.drill(60);
        Rooms.kick(room, 0);
        room.pass(9);
        Check.due("place", room.of(6), 38);
        Check.due("volume", room.of(5), 0);
        Check.due("foot", room.pressure(2), 1500);
    }

    private static void promise13FootOfLiquid() {
        Check.promise(13, "the weight times the SHOE, whatever LIQUID there is");
        Kickroom room = Rooms.over(10, 100, 0, false);
        room.casing(1);
        Rooms.kick(room, 0);
        Check.due("liquid", room.of(7), 1);
        Check.due("foot", room.pressure(2), 300);
    }

    private static void promise13FootWithoutShoe() {
        Check.promise(13, "The FOOT .. the weight times the SHOE, 0 at first");
        Check.due("new", new Kickroom().pressure(2), 0);
        Check.due("no SHOE", Rooms.drilled(100).pressure(2), 0);
        Check.due("no SHOE, a GAS at the top", Rooms.closed(Rooms.bubble(1)).pressure(2), 0);
        Kickroom room = Rooms.closed(Rooms.over(10, 100, 0, true));
        room.open();
        room.mud(93);
        room.close();
        room.pass(1);
        Check.due("no SHOE, a CHOKE", room.pressure(2), 7);
        Kickroom one = Rooms.drilled(1);
        one.casing(1);
        Check.due("a SHOE of 1", one.pressure(2), 11);
    }

    private static void promise13FootRoundedDown() {
        Check.promise(13, "a 10th of this; rounded down");
        int[][] foots = {{0, 1, 0}, {9, 1, 0}, {10, 1, 1}, {19, 1, 1}, {20, 1, 2}, {111, 9, 99}, {111, 10, 111}};
        for (int[] at : foots) {
            Kickroom room = Rooms.drilled(at[1]);
            room.casing(1);
            room.mud(at[0]);
            Check.due("mud of " + at[0] + " at a SHOE of " + at[1], room.pressure(2), at[2]);
        }
    }

    private static void promise13FootWithChoke() {
        Check.promise(13, "The FOOT is the CHOKE and a 10th of this, together");
        Kickroom room = Rooms.over(10, 100, 0, true);
        room.casing(1);
        room.mud(93);
        room.close();
        room.pass(1);
        Check.due("CHOKE of 7 and 93", room.pressure(2), 100);
        Check.due("the BREAK has no CHOKE", room.pressure(3), 300);
        room.open();
        Check.due("OPEN", room.pressure(2), 93);
    }

    private static void promise14Full() {
        Check.promise(14, "0 the depth .. 4 how many MINUTES went by, at their most");
        Kickroom room = Rooms.drilled(5000);
        room.mud(300);
        room.casing(1000);
        Rooms.passAll(room, 95000);
        long[] facts = {5000, 5000, 300, 0, 100000, 0, Kickroom.NONE, 0, 0, 475000, 0, 200};
        for (int what = 0; what < facts.length; what++) {
            Check.due("of(" + what + ")", room.of(what), facts[what]);
        }
        Check.due("barriers(), the valve's test is old", room.barriers(), 1);
    }

    private static void promise14Closed() {
        Check.promise(14, "3 whether it is CLOSED, 1 or 0");
        Kickroom room = new Kickroom();
        Check.due("new", room.of(3), 0);
        room.close();
        Check.due("closed", room.of(3), 1);
        room.open();
        Check.due("opened", room.of(3), 0);
        Check.due("broken", Rooms.broken().of(3), 0);
        Check.due("closed again", Rooms.closed(Rooms.broken()).of(3), 1);
    }

    private static void promise13AskedChangesNothing() {
        Check.promise(13, "pressures, reasons, weights and casings are asked, which changes nothing");
        askedTwice("new", Kickroom::new);
        askedTwice("much of all", Rooms::busy);
        askedTwice("CLOSED, a GAS, a CHOKE", Rooms::busyClosed);
        askedTwice("a GAS without volume", () -> Rooms.passed(Rooms.bubble(20), 1));
        askedTwice("a LIQUID", Rooms::flooded);
        askedTwice("CLOSED, a LIQUID", () -> Rooms.closed(Rooms.flooded()));
        askedTwice("the valve broke", Rooms::broken);
        askedTwice("no BARRIER", Rooms::withoutBarrier);
        askedTwice("at 5000", () -> Rooms.drilled(5000));
        askedTwice("no MINUTES left", () -> Rooms.passAll(Rooms.drilled(10), 99990));
    }

    private static void askedTwice(String name, Supplier<Kickroom> way) {
        Kickroom room = way.get();
        Check.due(name + ", asked twice", Probe.asked(room), Probe.asked(way.get()));
        Check.due(name + ", asked, then", Probe.played(room), Probe.played(way.get()));
    }

    private static void promise22EquivalentNotRounded() {
        Check.promise(22, "10 times that, as a float, divided by the SHOE, as a float");
        int[][] weights = {{113, 7, 790}, {110, 3, 330}, {109, 1, 100}, {111, 9, 990}, {101, 11, 1110},
            {199, 97, 19300}};
        for (int[] at : weights) {
            Kickroom room = Rooms.drilled(at[1]);
            room.casing(1);
            room.mud(at[0]);
            Check.due("mud of " + at[0] + ", SHOE " + at[1], room.equivalent(), (float) at[2] / (float) at[1]);
        }
    }

    private static void promise22EquivalentEnds() {
        Check.promise(22, "Returns the weight that is as heavy as the FOOT: the least, the most, with a CHOKE");
        Kickroom room = Rooms.drilled(5000);
        room.casing(1);
        room.mud(0);
        Check.due("0", room.equivalent(), 0);
        room.mud(300);
        Check.due("300", room.equivalent(), 300);
        Kickroom shallow = Rooms.over(1, 300, 0, true);
        shallow.casing(1);
        Check.due("300 at 1", shallow.equivalent(), 300);
        shallow.mud(5);
        shallow.close();
        shallow.pass(1);
        Check.due("a CHOKE of 30 and a 10th of 5", shallow.equivalent(), 300);
    }
}
