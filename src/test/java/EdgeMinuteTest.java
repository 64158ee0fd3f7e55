/** The edges of A MINUTE, of drilling and of passing: the document's words under A MINUTE, one test for each. */
public final class EdgeMinuteTest {
    public static void main(String[] args) {
        promise5RiseOpen();
        promise5RiseClosed();
        promise8RisePumped();
        promise5RiseAsTheValveBreaks();
        promise8RiseAsTheValveBreaks();
        promise5VentedOpen();
        promise5NotVentedClosed();
        promise8VentedPumped();
        promise5VentedByItsVolume();
        promise5ChokeNotAbove();
        promise5ChokeOfTheVolumes();
        promise5ValveAtItsStrength();
        promise5ValveAtNoStrength();
        promise5ValveAtMostStrength();
        promise5ValveFirstStrength();
        promise6ChokeUntilAMinute();
        promise6ClosedAsItBroke();
        promise7OpenTheChoke();
        promise5FlowAtThePore();
        promise5FlowRoundedDown();
        promise5FlowAtMost();
        promise5FlowNotClosed();
        promise5FlowAsTheValveBreaks();
        promise5GasTimesBottom();
        promise5GasPlace();
        promise5ChargeIsLarge();
        promise5LiquidAtMost();
        promise5LiquidFull();
        promise5LostAtTheBreak();
        promise5LostWithoutShoe();
        promise5LostByTheChoke();
        promise5LostAfterTheFlow();
        promise3MudAtOnce();
        promise4MetreThenMinute();
        promise4LastMetre();
        promise4BarredLookedAtOnce();
        promise4OneMetre();
        promise5BothVolumes();
        promise23AheadAtTheEnd();
        promise23AheadBreaksNothing();
        promise23AheadMost();
        promise23AheadOfWhatIsThere();
        promise23AheadAgain();
        Check.finish();
    }

    private static void gas(String name, Kickroom room, int place, int vented) {
        Check.due(name + ": place", room.of(6), place);
        Check.due(name + ": vented", room.of(8), vented);
    }

    private static Kickroom pumped(Kickroom room, int minutes) {
        room.close();
        room.pump(minutes, 300);
        return room;
    }

    private static void promise5RiseOpen() {
        Check.promise(5, "its place becomes less, by 8 if THE WELL is OPEN .., to 0 at least");
        gas("from 17", Rooms.passed(Rooms.bubble(17), 1), 9, 0);
        gas("from 9", Rooms.passed(Rooms.bubble(9), 1), 1, 0);
        gas("from 8", Rooms.passed(Rooms.bubble(8), 1), Kickroom.NONE, 1);
        gas("from 7", Rooms.passed(Rooms.bubble(7), 1), Kickroom.NONE, 1);
        gas("from 1", Rooms.passed(Rooms.bubble(1), 1), Kickroom.NONE, 1);
        gas("from 5000", Rooms.passed(Rooms.bubble(5000), 1), 4992, 0);
        gas("without", Rooms.passed(Rooms.drilled(9), 1), Kickroom.NONE, 0);
    }

    private static void promise5RiseClosed() {
        Check.promise(5, "its place becomes less .. by 2 if it is CLOSED .., to 0 at least");
        gas("from 4", Rooms.passed(Rooms.closed(Rooms.bubble(4)), 1), 2, 0);
        gas("from 3", Rooms.passed(Rooms.closed(Rooms.bubble(3)), 1), 1, 0);
        gas("from 2", Rooms.passed(Rooms.closed(Rooms.bubble(2)), 1), 0, 0);
        gas("from 1", Rooms.passed(Rooms.closed(Rooms.bubble(1)), 1), 0, 0);
        gas("from 1, twice", Rooms.passed(Rooms.closed(Rooms.bubble(1)), 2), 0, 0);
        gas("from 5000", Rooms.passed(Rooms.closed(Rooms.bubble(5000)), 1), 4998, 0);
        gas("without", Rooms.passed(Rooms.closed(Rooms.drilled(9)), 1), Kickroom.NONE, 0);
    }

    private static void promise8RisePumped() {
        Check.promise(8, "its place becomes less .. by 20 if mud is pumped round, to 0 at least");
        gas("from 41", pumped(Rooms.bubble(41), 1), 21, 0);
        gas("from 21", pumped(Rooms.bubble(21), 1), 1, 0);
        gas("from 20", pumped(Rooms.bubble(20), 1), Kickroom.NONE, 1);
        gas("from 19", pumped(Rooms.bubble(19), 1), Kickroom.NONE, 1);
        gas("from 1", pumped(Rooms.bubble(1), 1), Kickroom.NONE, 1);
        gas("from 5000", pumped(Rooms.bubble(5000), 1), 4980, 0);
        gas("without", pumped(Rooms.drilled(9), 1), Kickroom.NONE, 0);
    }

    private static void promise5RiseAsTheValveBreaks() {
        Check.promise(5, "by 2 if it is CLOSED, also in the MINUTE in which the valve breaks");
        Kickroom room = Rooms.passed(Rooms.weak(Rooms.bubble(10)), 1);
        Check.due("broken", room.of(3), 0);
        gas("from 10", room, 8, 0);
        room.pass(1);
        // both barrels are gone, and 1 comes in anew
        gas("by 8 then", room, 10, 2);
        Kickroom top = Rooms.passed(Rooms.weak(Rooms.bubble(2)), 1);
        gas("not vented at 0 as it breaks", top, 0, 0);
        Check.due("both barrels", top.of(5), 2);
    }

    private static void promise8RiseAsTheValveBreaks() {
        Check.promise(8, "by 20 if mud is pumped round, also in the MINUTE in which the valve breaks");
        Kickroom room = Rooms.weak(Rooms.bubble(30));
        Check.due("pump(5)", room.pump(5, 300), 1);
        gas("from 30", room, 10, 0);
        Kickroom top = Rooms.weak(Rooms.bubble(20));
        Check.due("pump(5)", top.pump(5, 300), 1);
        // gone, and 1 barrel comes in anew as the valve breaks
        gas("vented at 0 as it breaks", top, 20, 1);
        Check.due("volume", top.of(5), 1);
    }

    private static void promise5VentedOpen() {
        Check.promise(5, "If its place is 0 then, and THE WELL is OPEN .., the GAS is gone");
        Kickroom stays = Rooms.passed(Rooms.bubble(9), 1);
        Check.due("at 1: bars()", stays.bars(), 3);
        Kickroom gone = Rooms.passed(Rooms.bubble(8), 1);
        Check.due("at 0: volume", gone.of(5), 0);
        Check.due("at 0: pressure", gone.pressure(5), 0);
        Check.due("at 0: bars()", gone.bars(), 0);
        // its charge is 0: none of it is there as gas comes in anew
        Check.due("charge", Rooms.kick(gone, 0).of(5), 1);
        Check.due("vented", gone.of(8), 1);
        Kickroom room = Rooms.passed(Rooms.closed(Rooms.bubble(2)), 1);
        room.open();
        gas("at 0, as it is opened", room, 0, 0);
        room.pass(1);
        gas("at 0, OPEN", room, Kickroom.NONE, 1);
    }

    private static void promise5NotVentedClosed() {
        Check.promise(5, "If its place is 0 then, and THE WELL is OPEN or mud is pumped round, not if it is CLOSED");
        Kickroom room = Rooms.passed(Rooms.closed(Rooms.bubble(2)), 100);
        gas("at 0, CLOSED", room, 0, 0);
        Check.due("volume", room.of(5), 1);
        Check.due("bars()", Rooms.opened(room).bars(), 3);
    }

    private static void promise8VentedPumped() {
        Check.promise(8, "If its place is 0 then, and .. mud is pumped round, the GAS is gone");
        Kickroom room = Rooms.passed(Rooms.closed(Rooms.bubble(2)), 1);
        room.pump(1, 300);
        gas("at 0, pumped", room, Kickroom.NONE, 1);
        Check.due("volume", room.of(5), 0);
        Check.due("still CLOSED", room.of(3), 1);
        Check.due("no charge", room.pass(1), 0);
    }

    private static void promise5VentedByItsVolume() {
        Check.promise(5, "what is vented becomes more by its volume");
        Kickroom none = Rooms.passed(Rooms.bubble(16), 1);
        Check.due("volume at 8", none.of(5), 0);
        none.pass(1);
        gas("no volume", none, Kickroom.NONE, 0);
        Check.due("none is there", none.bars(), 0);
        Kickroom much = Rooms.kick(Rooms.over(8, 300, 1000, true), 0);
        Check.due("charge 25, volume", much.of(5), 8);
        much.pass(1);
        gas("its volume alone", much, Kickroom.NONE, 8);
        Kickroom again = Rooms.kick(much, 0);
        again.pass(1);
        gas("vented twice", again, Kickroom.NONE, 16);
    }

    /** CLOSED for a MINUTE over the PORE of 100 at 10 metres, under mud of that weight. */
    private static Kickroom closedUnder(int weight) {
        return Rooms.passed(Rooms.closed(Rooms.withMud(Rooms.over(10, 100, 10, true), weight)), 1);
    }

    private static void promise5ChokeNotAbove() {
        Check.promise(5, "the CHOKE becomes what the PORE at the depth is above the COLUMN, 0 if it is not above it");
        Check.due("one above", closedUnder(99).pressure(4), 1);
        Check.due("equal", closedUnder(100).pressure(4), 0);
        Check.due("one below", closedUnder(101).pressure(4), 0);
        Check.due("no mud", closedUnder(0).pressure(4), 100);
        Check.due("heaviest mud", closedUnder(300).pressure(4), 0);
        Kickroom room = closedUnder(99);
        room.pass(1);
        Check.due("it does not add up", room.pressure(4), 1);
        Check.due("BOTTOM", room.pressure(0), 100);
    }

    private static void promise5ChokeOfTheVolumes() {
        Check.promise(5, "what the PORE at the depth is above the COLUMN, with the volumes as they are measured");
        Kickroom gas = Rooms.withMud(Rooms.kick(Rooms.over(10, 100, 0, true), 0), 0);
        gas.mud(100);
        gas.close();
        // at 8 metres the charge of 1 has no volume
        gas.pass(1);
        Check.due("gas", gas.pressure(4), 0);
        Kickroom liquid = Rooms.kick(Rooms.over(10, 130, 0, false), 0);
        liquid.mud(130);
        liquid.close();
        liquid.pass(1);
        Check.due("1 barrel of 100 for one of 130", liquid.pressure(4), 3);
    }

    private static void promise5ValveAtItsStrength() {
        Check.promise(5, "if that is more than the strength of the valve, the valve breaks");
        for (int strength : new int[] {99, 100, 101}) {
            Kickroom room = Rooms.closed(Rooms.withMud(Rooms.over(10, 100, 10, true), 0));
            room.strength(strength);
            room.pass(1);
            boolean breaks = strength < 100;
            Check.due("CHOKE 100, strength " + strength + ": CLOSED", room.of(3), breaks ? 0 : 1);
            Check.due("CHOKE 100, strength " + strength + ": CHOKE", room.pressure(4), breaks ? 0 : 100);
            Check.due("CHOKE 100, strength " + strength + ": barriers()", room.barriers(), breaks ? 0 : 3);
        }
    }

    private static void promise5ValveAtNoStrength() {
        Check.promise(5, "if that is more than the strength of the valve, which may be 0");
        for (int weight : new int[] {99, 100}) {
            Kickroom room = Rooms.withMud(Rooms.over(10, 100, 10, true), weight);
            room.strength(0);
            room.close();
            room.pass(1);
            Check.due("CHOKE " + (100 - weight) + ": CLOSED", room.of(3), weight == 100 ? 1 : 0);
        }
    }

    private static void promise5ValveAtMostStrength() {
        Check.promise(5, "if that is more than the strength of the valve, which may be 100000");
        for (int weight : new int[] {99, 100}) {
            Kickroom room = Rooms.withMud(Rooms.over(5000, 300, 10, true), weight);
            room.strength(100000);
            room.close();
            room.pass(1);
            Check.due("mud of " + weight + ": CLOSED", room.of(3), weight == 100 ? 1 : 0);
            Check.due("mud of " + weight + ": CHOKE", room.pressure(4), weight == 100 ? 100000 : 0);
        }
    }

    private static void promise5ValveFirstStrength() {
        Check.promise(5, "The valve has a strength, 10000 at first");
        // PORE and COLUMN at 1000 metres are 30000 and 20000, at 1001 metres 30030 and 20020
        for (int depth : new int[] {1000, 1001}) {
            Kickroom room = Rooms.withMud(Rooms.over(depth, 300, 10, true), 200);
            room.close();
            room.pass(1);
            Check.due("at " + depth, room.of(3), depth == 1000 ? 1 : 0);
        }
    }

    private static void promise6ChokeUntilAMinute() {
        Check.promise(6, "the CHOKE stays 0 until a MINUTE goes by");
        Kickroom room = Rooms.closed(Rooms.withMud(Rooms.over(10, 100, 10, true), 0));
        Check.due("at once", room.pressure(4), 0);
        Check.due("open() at once", room.open(), 0);
        room.close();
        room.pass(1);
        Check.due("a MINUTE went by", room.pressure(4), 100);
        room.open();
        room.close();
        Check.due("closed again", room.pressure(4), 0);
    }

    private static void promise6ClosedAsItBroke() {
        Check.promise(6, "Closes THE WELL, also by a valve that broke");
        Kickroom room = Rooms.broken();
        Check.due("broken", room.of(3), 0);
        room.close();
        Check.due("closed", room.of(3), 1);
        room.strength(100000);
        room.pass(1);
        Check.due("it holds, once it is strong", room.of(3), 1);
        Check.due("though it is no BARRIER", room.barriers(), 0);
    }

    private static void promise7OpenTheChoke() {
        Check.promise(7, "Opens THE WELL; the CHOKE is 0; returns the CHOKE before");
        Kickroom room = closedUnder(99);
        Check.due("open()", room.open(), 1);
        Check.due("CHOKE", room.pressure(4), 0);
        Check.due("BOTTOM", room.pressure(0), 99);
        Check.due("open(), a CHOKE of 0", closedUnder(100).open(), 0);
        Check.due("open(), no depth", Rooms.closed(new Kickroom()).open(), 0);
    }

    private static void promise5FlowAtThePore() {
        Check.promise(5, "If THE WELL is OPEN .. and the PORE at the depth is above the BOTTOM");
        for (boolean bearsGas : new boolean[] {false, true}) {
            Check.due("equal", Rooms.withMud(Rooms.over(10, 100, 0, bearsGas), 100).pass(1), 0);
            Check.due("one below", Rooms.withMud(Rooms.over(10, 100, 0, bearsGas), 101).pass(1), 0);
            Check.due("one above", Rooms.withMud(Rooms.over(10, 100, 0, bearsGas), 99).pass(1), 1);
            // at 9 metres both are 90, by mud of 100 and of 101
            Check.due("equal, rounded down", Rooms.withMud(Rooms.over(9, 101, 0, bearsGas), 100).pass(1), 0);
        }
    }

    private static void promise5FlowRoundedDown() {
        Check.promise(5, "1 barrel, and as many more as .., times the rate .., divided by 10000; rounded down");
        // the PORE is 100 at 20 metres, the BOTTOM twice the weight: 1 and a 10th of what the one is above the other
        int[][] barrels = {{0, 11}, {1, 10}, {5, 10}, {6, 9}, {25, 6}, {44, 2}, {45, 2}, {46, 1}, {49, 1}, {50, 0}};
        for (int[] at : barrels) {
            Kickroom liquid = Rooms.withMud(Rooms.over(20, 50, 1000, false), at[0]);
            Check.due("liquid under mud of " + at[0], liquid.pass(1), at[1]);
            Kickroom gas = Rooms.withMud(Rooms.over(20, 50, 1000, true), at[0]);
            Check.due("gas under mud of " + at[0], gas.pass(1), at[1]);
        }
        // the PORE is 101, so much as the mud leaves above the other: 99 times 101 is 9999, 100 times 100 is 10000
        Check.due("9999", Rooms.withMud(Rooms.over(10, 101, 101, false), 2).pass(1), 1);
        Check.due("10000", Rooms.withMud(Rooms.over(10, 101, 100, false), 1).pass(1), 2);
        Check.due("19998", Rooms.withMud(Rooms.over(10, 101, 202, false), 2).pass(1), 2);
        Check.due("20000", Rooms.withMud(Rooms.over(10, 101, 200, false), 1).pass(1), 3);
    }

    private static void promise5FlowAtMost() {
        Check.promise(5, "40 at most");
        // PORES of 389, 390, 399, 400 and 410 at 100 metres under no mud are as many more as a 10th of that
        int[][] barrels = {{38, 39}, {39, 40}, {40, 40}, {41, 40}, {300, 40}};
        for (int[] at : barrels) {
            Check.due("liquid, pore " + at[0], Rooms.withMud(Rooms.over(100, at[0], 1000, false), 0).pass(1), at[1]);
            Check.due("gas, pore " + at[0], Rooms.withMud(Rooms.over(100, at[0], 1000, true), 0).pass(1), at[1]);
        }
        Check.due("the deepest", Rooms.withMud(Rooms.over(5000, 300, 1000, false), 0).pass(1), 40);
    }

    private static void promise5FlowNotClosed() {
        Check.promise(5, "If THE WELL is OPEN .. there flow in");
        Check.due("OPEN", Rooms.withMud(Rooms.over(10, 100, 0, false), 0).pass(1), 1);
        Check.due("CLOSED", Rooms.closed(Rooms.withMud(Rooms.over(10, 100, 0, false), 0)).pass(1), 0);
        Kickroom room = Rooms.closed(Rooms.withMud(Rooms.over(10, 100, 0, false), 0));
        room.open();
        Check.due("opened", room.pass(1), 1);
    }

    private static void promise5FlowAsTheValveBreaks() {
        Check.promise(5, "If THE WELL is OPEN, by step 4 too");
        Kickroom room = Rooms.weak(Rooms.over(10, 100, 0, false));
        Check.due("pass(1)", room.pass(1), 1);
        Check.due("broken", room.of(3), 0);
        Kickroom pumped = Rooms.weak(Rooms.over(10, 100, 0, true));
        Check.due("pump(1)", pumped.pump(1, 300), 1);
        Check.due("gas", pumped.of(5), 1);
        Check.due("place", pumped.of(6), 10);
    }

    private static void promise5GasTimesBottom() {
        Check.promise(5, "by these barrels times the BOTTOM, or times 1, if that is 0");
        // the BOTTOM at 10 metres is the weight of the mud; the charge is shown by mud of 0, at most 10
        int[][] charges = {{0, 1}, {1, 1}, {2, 2}, {3, 3}, {9, 9}};
        for (int[] at : charges) {
            Check.due("BOTTOM of " + at[0], charge(Rooms.kick(Rooms.over(10, 100, 0, true), at[0])), at[1]);
        }
        // 1 + 200 * 100 / 10000 = 3 barrels, and 1 + 198 * 100 / 10000 = 2
        Check.due("3 of 0", charge(Rooms.kick(Rooms.over(20, 100, 100, true), 0)), 3);
        Check.due("2 of 2", charge(Rooms.kick(Rooms.over(20, 100, 100, true), 1)), 4);
        // at 5 metres the BOTTOM is 4 / 2 = 2 under mud of 4, and 5 / 2 = 2 under mud of 5
        Check.due("1 of 2", charge(Rooms.kick(Rooms.over(5, 100, 0, true), 5)), 2);
        Check.due("1 of 0", charge(Rooms.kick(Rooms.over(5, 100, 0, true), 1)), 1);
    }

    /** The charge of the GAS, if it is not above the depth: it is the volume under mud of 0. */
    private static int charge(Kickroom room) {
        return Rooms.closed(Rooms.withMud(room, 0)).pass(1);
    }

    private static void promise5GasPlace() {
        Check.promise(5, "its place is the depth, if there was none, and it is measured");
        Kickroom room = Rooms.withMud(Rooms.over(60, 100, 100, true), 0);
        Check.due("first", room.pass(1), 7);
        gas("first", room, 60, 0);
        Check.due("more comes in", room.pass(1), 14);
        gas("more comes in", room, 52, 0);
        Check.due("seven times", room.pass(5), 49);
        gas("seven times", room, 12, 0);
        Check.due("nine times", room.pass(2), 7);
        gas("gone, and the first again", room, 60, 56);
        Kickroom small = Rooms.passed(Rooms.bubble(20), 1);
        small.mud(0);
        // there was one, though without a volume
        Check.due("more, to no volume", small.pass(1), 2);
        gas("more, to no volume", small, 4, 0);
        Kickroom none = Rooms.withMud(Rooms.bubble(20), 50);
        // at 12 metres the charge of 1 has no volume, and 1 barrel of 100 comes in: 101 / 60
        Check.due("more, as it has no volume", none.pass(1), 1);
        gas("more, as it has no volume", none, 12, 0);
    }

    private static void promise5ChargeIsLarge() {
        Check.promise(5, "the charge of the GAS becomes more by these barrels times the BOTTOM, how large it ever is");
        Kickroom room = Rooms.withMud(Rooms.over(5000, 300, 1000, true), 299);
        long charge = 0;
        long volume = 0;
        for (int minute = 0; minute < 420; minute++) {
            int place = 5000 - 8 * minute;
            volume = minute == 0 ? 0 : Math.min(5000, charge / (299L * place / 10));
            long bottom = 299 * (5000 - volume) / 10;
            charge += Math.min(40, 1 + (150000 - bottom) * 1000 / 10000) * Math.max(1, bottom);
            volume = Math.min(5000, charge / (299L * place / 10));
            Check.due("volume in the MINUTE " + minute, room.pass(1), volume);
        }
        Check.due("a charge above 500000000", charge > 500000000, true);
    }

    private static void promise5LiquidAtMost() {
        Check.promise(5, "but both volumes together are at most the depth; what would be above that does not come in");
        // 11 barrels of the PORE of 100
        int[][] depths = {{10, 100, 10}, {11, 91, 11}, {20, 50, 11}};
        for (int[] at : depths) {
            Kickroom room = Rooms.withMud(Rooms.over(at[0], at[1], 1000, false), 0);
            Check.due("liquid at " + at[0], room.pass(1), at[2]);
            Check.due("of(7) at " + at[0], room.of(7), at[2]);
        }
        Kickroom room = Rooms.withMud(Rooms.over(5, 300, 0, false), 0);
        for (int minute = 1; minute <= 7; minute++) {
            Check.due("a barrel a MINUTE", room.pass(1), Math.min(5, minute));
        }
    }

    private static void promise5LiquidFull() {
        Check.promise(4, "what would be above that does not come in, though something flowed in");
        Kickroom room = Rooms.ready();
        room.layer(0, 300, 300, 1000, false);
        // 1 barrel of 2 comes in at 1 metre: (300 - 110) / 10 is 19 above
        Check.due("drill(500)", room.drill(500), 1);
        Check.due("liquid", room.of(7), 1);
        Kickroom gas = Rooms.ready();
        gas.layer(0, 300, 300, 1000, true);
        gas.mud(0);
        Check.due("drill(500), gas", gas.drill(500), 1);
        Check.due("gas", gas.of(5), 1);
        Check.due("pass(1), full of liquid", room.pass(1), 1);
        Check.due("bars()", room.bars(), 3);
    }

    /** A SHOE at the depth, where the break weight is as told, under mud of that weight. */
    private static Kickroom shoe(int depth, int breaks, int weight) {
        Kickroom room = Rooms.ready();
        room.layer(0, 0, breaks, 10, false);
        room.drill(depth);
        room.casing(1);
        room.mud(weight);
        return room;
    }

    private static void promise5LostAtTheBreak() {
        Check.promise(5, "If .. the FOOT [is] above the BREAK at the SHOE, 5 barrels are lost");
        Check.due("one below", Rooms.passed(shoe(10, 120, 119), 1).of(9), 0);
        Check.due("equal", Rooms.passed(shoe(10, 120, 120), 1).of(9), 0);
        Check.due("one above", Rooms.passed(shoe(10, 120, 121), 1).of(9), 5);
        Check.due("far above", Rooms.passed(shoe(10, 120, 300), 1).of(9), 5);
        Check.due("twice", Rooms.passed(shoe(10, 120, 121), 2).of(9), 10);
        // both are 12 at 1 metre, whatever weighs less than 130
        Check.due("equal, rounded down", Rooms.passed(shoe(1, 120, 129), 1).of(9), 0);
        Check.due("one above, rounded down", Rooms.passed(shoe(1, 120, 130), 1).of(9), 5);
        Check.due("break of 0", Rooms.passed(shoe(10, 0, 0), 1).of(9), 0);
        Check.due("above a break of 0", Rooms.passed(shoe(10, 0, 1), 1).of(9), 5);
        Check.due("the most weights", Rooms.passed(shoe(10, 300, 300), 1).of(9), 0);
        Kickroom drilled = shoe(10, 120, 121);
        drilled.drill(3);
        Check.due("drilled", drilled.of(9), 15);
        Kickroom pumped = shoe(10, 120, 121);
        pumped.close();
        pumped.pump(3, 0);
        Check.due("pumped until the mud is light", pumped.of(9), 5);
    }

    private static void promise5LostWithoutShoe() {
        Check.promise(5, "If the SHOE is above 0");
        Kickroom room = closedUnder(0);
        Check.due("FOOT", room.pressure(2), 100);
        Check.due("BREAK", room.pressure(3), 0);
        Check.due("no SHOE", room.of(9), 0);
        Check.due("a SHOE of 1", Rooms.passed(shoe(1, 0, 10), 1).of(9), 5);
    }

    private static void promise5LostByTheChoke() {
        Check.promise(5, "the FOOT above the BREAK at the SHOE, with the CHOKE of this MINUTE");
        for (int breaks : new int[] {99, 100}) {
            Kickroom room = Rooms.ready();
            room.layer(0, 100, breaks, 10, false);
            room.mud(100);
            room.drill(10);
            room.casing(1);
            room.mud(90);
            room.close();
            room.pass(1);
            Check.due("CHOKE", room.pressure(4), 10);
            // 10 and 90 are above 99, not above 100
            Check.due("break of " + breaks, room.of(9), breaks == 99 ? 5 : 0);
        }
        Kickroom weak = shoe(10, 50, 40);
        weak.layer(1, 300, 300, 0, false);
        weak.drill(91);
        weak.strength(0);
        weak.close();
        weak.pass(1);
        Check.due("the valve breaks, the CHOKE is 0", weak.of(9), 0);
    }

    private static void promise5LostAfterTheFlow() {
        Check.promise(5, "the FOOT above the BREAK at the SHOE, with what flowed in by step 5");
        for (int breaks : new int[] {244, 245}) {
            Kickroom room = Rooms.ready();
            room.layer(0, 300, breaks, 100, true);
            room.mud(300);
            room.drill(19);
            room.casing(1);
            room.drill(1);
            room.mud(290);
            Check.due("1 barrel of 580", room.pass(1), 1);
            long lost = room.of(9);
            // at 12 metres 580 / 348 is 1 barrel, and 1 of 551 comes in: 1131 / 348
            Check.due("1 barrel of 551 more", room.pass(1), 3);
            Check.due("FOOT", room.pressure(2), 290 * (19 - 3) / 10);
            // 464 is above 463, not above 465; before it came in 522 was
            Check.due("lost at a BREAK of " + room.pressure(3), room.of(9) - lost, breaks == 244 ? 5 : 0);
        }
    }

    private static void promise3MudAtOnce() {
        Check.promise(3, "Tells the weight of the mud, at once, in all of THE WELL; 0 to 300");
        Kickroom room = Rooms.drilled(100);
        Check.due("mud(300)", room.mud(300), 110);
        Check.due("BOTTOM", room.pressure(0), 3000);
        Check.due("mud(0)", room.mud(0), 300);
        Check.due("BOTTOM", room.pressure(0), 0);
        Check.due("mud(0) again", room.mud(0), 0);
        Check.due("MINUTES", room.of(4), 100);
        Check.due("no depth", new Kickroom().mud(5), 110);
    }

    private static void promise4MetreThenMinute() {
        Check.promise(4, "To drill a metre is to make the depth 1 more, and to let a MINUTE go by then");
        Kickroom room = Rooms.overKick(0, true);
        Check.due("depth", room.of(0), 100);
        Check.due("nothing flows in at 100", room.ahead(1), 0);
        Check.due("drill(1)", room.drill(1), 1);
        Check.due("gas at 101", room.of(5), 1);
        Check.due("place", room.of(6), 101);
        Check.due("MINUTES", room.of(4), 101);
        Check.due("the first metre", Rooms.drilled(1).of(4), 1);
    }

    private static void promise4LastMetre() {
        Check.promise(4, "the last one is that in whose MINUTE something flowed in, if there is one");
        int[][] metres = {{1, 1, 0}, {99, 99, 0}, {100, 100, 0}, {101, 101, 1}, {102, 101, 1}, {500, 101, 1}};
        for (int[] at : metres) {
            for (boolean bearsGas : new boolean[] {false, true}) {
                Kickroom room = Rooms.ready();
                room.layer(1, 300, 300, 0, bearsGas);
                Check.due("drill(" + at[0] + ")", room.drill(at[0]), at[1]);
                Check.due("depth", room.of(0), at[1]);
                Check.due("MINUTES", room.of(4), at[1]);
                Check.due("volumes", room.of(5) + room.of(7), at[2]);
            }
        }
        Kickroom first = Rooms.ready();
        first.layer(0, 300, 300, 0, true);
        Check.due("at the first metre", first.drill(500), 1);
    }

    private static void promise4BarredLookedAtOnce() {
        Check.promise(4, "What bars it is looked at once, ahead of all metres");
        Kickroom room = Rooms.passAll(Rooms.ready(), 20160);
        Check.due("as the valve's test grows old", room.drill(500), 500);
        Check.due("bars() then", room.bars(), 4);
        Kickroom late = Rooms.passAll(Rooms.ready(), 20161);
        Check.due("bars() at once", late.bars(), 4);
        Check.due("drill(100) down to 5000", Rooms.drilled(4900).drill(100), 100);
    }

    private static void promise4OneMetre() {
        Check.promise(4, "metres: 1 to 500; returns how many metres were drilled");
        Kickroom room = Rooms.ready();
        Check.due("drill(1)", room.drill(1), 1);
        Check.due("depth", room.of(0), 1);
        Check.due("drill(500)", room.drill(500), 500);
        Check.due("depth", room.of(0), 501);
    }

    private static void promise5BothVolumes() {
        Check.promise(5, "minutes: 1 to 2000; returns both volumes, together");
        Kickroom room = new Kickroom();
        Check.due("pass(1)", room.pass(1), 0);
        Check.due("MINUTES", room.of(4), 1);
        Check.due("pass(2000)", room.pass(2000), 0);
        Check.due("MINUTES", room.of(4), 2001);
        Check.due("gas", Rooms.withMud(Rooms.over(10, 100, 0, true), 0).pass(1), 1);
        Check.due("liquid", Rooms.withMud(Rooms.over(10, 100, 0, false), 0).pass(1), 1);
    }

    private static void promise23AheadAtTheEnd() {
        Check.promise(23, "also if the MINUTES would be above 100000 by that");
        for (int minutes : new int[] {97999, 98000, 98001, 99998, 99999, 100000}) {
            Kickroom room = Rooms.passAll(Rooms.bubble(100), minutes - 101);
            room.mud(0);
            Check.due("MINUTES", room.of(4), minutes);
            for (int ahead : new int[] {1, 2, 13, 2000}) {
                // mud of 0 lets in 1 barrel in each MINUTE, and lets it out in every 13th
                Check.due("ahead(" + ahead + ") at " + minutes, room.ahead(ahead), (ahead - 1) % 13 + 1);
            }
            Check.due("MINUTES", room.of(4), minutes);
        }
    }

    private static void promise23AheadBreaksNothing() {
        Check.promise(23, "Returns what pass() would return; asked, which changes nothing");
        Kickroom room = Rooms.weak(Rooms.bubble(100));
        Kickroom twin = Rooms.weak(Rooms.bubble(100));
        for (int minutes : new int[] {1, 2, 50, 2000}) {
            room.ahead(minutes);
        }
        Check.due("after ahead()", Probe.asked(room), Probe.asked(twin));
        Check.due("pass(2)", room.pass(2), twin.pass(2));
        Check.due("after pass(2)", Probe.asked(room), Probe.asked(twin));
    }

    private static void promise23AheadOfWhatIsThere() {
        Check.promise(23, "Returns what pass() would return, with the CHOKE, the GAS and the LIQUID that there are");
        for (int minutes : new int[] {1, 2, 10}) {
            Kickroom choked = Rooms.passed(Rooms.closed(Rooms.kicked()), 1);
            Check.due("CHOKE", choked.pressure(4), 2230);
            Check.due("ahead(" + minutes + "), a CHOKE", choked.ahead(minutes), choked.pass(minutes));
            Kickroom liquid = Rooms.closed(Rooms.flooded());
            Check.due("ahead(" + minutes + "), a LIQUID", liquid.ahead(minutes), 20);
            Check.due("pass(" + minutes + "), a LIQUID", liquid.pass(minutes), 20);
        }
        // 21210 / (970 + 2230)
        Check.due("ahead(1), a CHOKE", Rooms.passed(Rooms.closed(Rooms.kicked()), 1).ahead(1), 6);
    }

    private static void promise23AheadAgain() {
        Check.promise(23, "Returns what pass() would return, whatever was asked before");
        Kickroom gas = Rooms.closed(Rooms.kicked());
        Check.due("a GAS", gas.ahead(3) > 0, true);
        gas.pump(6, 300);
        Check.due("a GAS that is gone", gas.ahead(3), 0);
        Kickroom liquid = Rooms.closed(Rooms.flooded());
        Check.due("a LIQUID", liquid.ahead(3), 20);
        liquid.pump(6, 300);
        Check.due("a LIQUID that is gone", liquid.ahead(3), 0);
        Kickroom weak = Rooms.weak(Rooms.over(10, 100, 0, false));
        Check.due("the valve breaks", weak.ahead(1), 1);
        weak.strength(100);
        Check.due("the valve holds", weak.ahead(1), 0);
        weak.open();
        weak.mud(100);
        Check.due("the mud holds", weak.ahead(1), 0);
    }

    private static void promise23AheadMost() {
        Check.promise(23, "minutes: 1 to 2000; returns what pass() would return");
        for (int minutes : new int[] {1, 1999, 2000}) {
            Kickroom open = Rooms.withMud(Rooms.bubble(100), 0);
            Check.due("ahead(" + minutes + ")", open.ahead(minutes), open.pass(minutes));
            Kickroom closed = Rooms.closed(Rooms.withMud(Rooms.bubble(100), 0));
            Check.due("ahead(" + minutes + "), CLOSED", closed.ahead(minutes), closed.pass(minutes));
            Kickroom broken = Rooms.weak(Rooms.bubble(100));
            Check.due("ahead(" + minutes + "), it breaks", broken.ahead(minutes), broken.pass(minutes));
            Kickroom liquid = Rooms.withMud(Rooms.over(5000, 300, 0, false), 299);
            Check.due("ahead(" + minutes + "), liquid", liquid.ahead(minutes), liquid.pass(minutes));
        }
    }
}
