import java.util.Arrays;

/** The edges of the rock: the document's words under ROCK, "All quotients", "Weights, casings", one test for each. */
public final class EdgeRockTest {
    public static void main(String[] args) {
        promise1NothingYet();
        promise1TheLastCall();
        promise2LayersFromTo();
        promise2LeastAndMost();
        promise1WeightsAtFirst();
        promise1RateAtFirst();
        promise1LiquidAtFirst();
        promise13LayerOfADepth();
        promise13LayerOfTheDepth0();
        promise13PoreRoundedDown();
        promise13BreakRoundedDown();
        promise13PoreDeepest();
        promise5RateOfTheLayer();
        promise18KillWeightLeast();
        promise18KillWeightEnds();
        promise19WindowFromTo();
        promise19WindowGreatestAndLeast();
        promise19WindowEnds();
        promise20CasingsPieces();
        promise21CasingsAnewPieces();
        promise20CasingsCannotBe();
        promise21CasingsAnewCannotBe();
        promise20CasingsToTheLayer();
        promise21CasingsAnewToTheLayer();
        Check.finish();
    }

    private static void promise1NothingYet() {
        Check.promise(1, "all are 0 at first");
        Kickroom room = new Kickroom();
        Check.due("pass(2000)", room.pass(2000), 0);
        for (int what = 0; what <= 5; what++) {
            Check.due("pressure(" + what + ")", room.pressure(what), 0);
        }
        int[] facts = {0, 0, 110, 0, 2000, 0, Kickroom.NONE, 0, 0, 0, 0, 0};
        for (int what = 0; what < facts.length; what++) {
            Check.due("of(" + what + ")", room.of(what), facts[what]);
        }
        Check.due("ahead(2000)", room.ahead(2000), 0);
        room.mud(0);
        Check.due("barriers() of mud of 0", room.barriers(), 1);
        Check.due("mud of 0", room.pass(1), 0);
        room.close();
        Check.due("closed", room.pass(1), 0);
        Check.due("choke", room.open(), 0);
        Check.due("lost", room.of(9), 0);
    }

    private static void promise1TheLastCall() {
        Check.promise(1, "An object is used for at most 512 calls after it has been made");
        Kickroom room = Rooms.ready();
        for (int call = 2; call <= 510; call++) {
            room.stop(call % 6, call < 505);
        }
        Check.due("the 511th call", room.stop(2, false), 0);
        Check.due("the 512th call", room.drill(500), 500);
        Kickroom stops = new Kickroom();
        for (int call = 1; call <= 511; call++) {
            stops.stop(call % 6, true);
        }
        Check.due("the 512th call, of a kind", stops.stop(0, true), 6);
    }

    private static void promise2LayersFromTo() {
        Check.promise(2, "the LAYER k goes from the depth of 100 times k metres to that of 100 more");
        Kickroom room = new Kickroom();
        for (int layer = 0; layer < 50; layer++) {
            room.layer(layer, 10 + layer, 300 - layer, layer, true);
        }
        for (int layer = 0; layer < 50; layer++) {
            int from = 100 * layer;
            Check.due("pore from " + from, room.window(from, from + 1, false), 10 + layer);
            Check.due("pore to " + (from + 100), room.window(from + 99, from + 100, false), 10 + layer);
            Check.due("break from " + from, room.window(from, from + 1, true), 300 - layer);
            Check.due("break to " + (from + 100), room.window(from + 99, from + 100, true), 300 - layer);
        }
    }

    private static void promise2LeastAndMost() {
        Check.promise(2, "pore: 0 to 300, breaks: 0 to 300, rate: 0 to 1000");
        Kickroom room = new Kickroom();
        room.layer(0, 0, 0, 0, false);
        room.layer(49, 300, 300, 1000, true);
        Check.due("least pore", room.window(0, 1, false), 0);
        Check.due("least breaks", room.window(0, 1, true), 0);
        Check.due("most pore", room.window(4999, 5000, false), 300);
        Check.due("most breaks", room.window(4999, 5000, true), 300);
        // 100 metres of a pore weight of 40 under no mud: 1 barrel, and 400 times the rate, divided by 10000
        Check.due("rate 0", flowAt100(0), 1);
        Check.due("rate 1", flowAt100(1), 1);
        Check.due("rate 24", flowAt100(24), 1);
        Check.due("rate 25", flowAt100(25), 2);
        Check.due("rate 974", flowAt100(974), 39);
        Check.due("rate 975", flowAt100(975), 40);
        Check.due("rate 1000", flowAt100(1000), 40);
    }

    private static int flowAt100(int rate) {
        Kickroom room = Rooms.over(100, 40, rate, false);
        room.mud(0);
        return room.pass(1);
    }

    private static void promise1WeightsAtFirst() {
        Check.promise(1, "a pore weight, 100 at first, a break weight, 180 at first");
        Kickroom room = new Kickroom();
        for (int layer = 0; layer < 50; layer++) {
            Check.due("pore of " + layer, room.window(100 * layer, 100 * layer + 100, false), 100);
            Check.due("break of " + layer, room.window(100 * layer, 100 * layer + 100, true), 180);
        }
    }

    private static void promise1RateAtFirst() {
        Check.promise(1, "a rate, 10 at first");
        // the pores are 990 and 1000 above no mud
        Check.due("at 99", flowUnder(99, 0), 1);
        Check.due("at 100", flowUnder(100, 0), 2);
        // 9500 and 10000 below mud of 81 and 80
        Check.due("at 5000 under 81", flowUnder(5000, 81), 10);
        Check.due("at 5000 under 80", flowUnder(5000, 80), 11);
    }

    private static void promise1LiquidAtFirst() {
        Check.promise(1, "bears gas or liquid, liquid at first");
        for (int depth : new int[] {1, 100, 101, 4901, 5000}) {
            Kickroom room = Rooms.drilled(depth);
            room.mud(0);
            int flowed = room.pass(1);
            Check.due("liquid at " + depth, room.of(7), flowed);
            Check.due("place at " + depth, room.of(6), Kickroom.NONE);
        }
    }

    private static int flowUnder(int depth, int weight) {
        Kickroom room = Rooms.drilled(depth);
        room.mud(weight);
        return room.pass(1);
    }

    /** The pore weights are 10 for the LAYER 0, 11 for the LAYER 1 and so on; the break weights 300, 299 and so on. */
    private static Kickroom inEachLayer(int depth) {
        Kickroom room = Rooms.ready();
        for (int layer = 0; layer < 50; layer++) {
            room.layer(layer, 10 + layer, 300 - layer, 10, false);
        }
        return Rooms.deeper(room, depth);
    }

    private static void promise13LayerOfADepth() {
        Check.promise(13, "The LAYER of a depth d above 0 is the one that goes to d or beyond, and begins above it");
        int[][] layers = {{1, 0}, {99, 0}, {100, 0}, {101, 1}, {200, 1}, {201, 2}, {4900, 48}, {4901, 49}, {5000, 49}};
        for (int[] at : layers) {
            Kickroom room = inEachLayer(at[0]);
            room.casing(1);
            Check.due("pore at " + at[0], room.pressure(1), (10 + at[1]) * at[0] / 10);
            Check.due("break at a SHOE of " + at[0], room.pressure(3), (300 - at[1]) * at[0] / 10);
        }
    }

    private static void promise13LayerOfTheDepth0() {
        Check.promise(13, "that of the depth 0 is the LAYER 0");
        Kickroom room = Rooms.ready();
        room.layer(0, 300, 300, 1000, true);
        Check.due("pore at 0", room.pressure(1), 0);
        Check.due("break at a SHOE of 0", room.pressure(3), 0);
        room.mud(0);
        Check.due("pass(10) at 0", room.pass(10), 0);
        Check.due("drill(1) at 0", room.drill(1), 1);
        Check.due("GAS at 1", room.of(6), 1);
    }

    private static void promise13PoreRoundedDown() {
        Check.promise(13, "The PORE at a depth is the pore weight .., times the depth, divided by 10; rounded down");
        int[][] pores = {{0, 1, 0}, {9, 1, 0}, {10, 1, 1}, {19, 1, 1}, {20, 1, 2}, {101, 9, 90}, {101, 10, 101},
            {109, 99, 1079}, {110, 99, 1089}, {300, 1, 30}};
        for (int[] at : pores) {
            Check.due("pore " + at[0] + " at " + at[1], Rooms.over(at[1], at[0], 0, false).pressure(1), at[2]);
        }
    }

    private static void promise13BreakRoundedDown() {
        Check.promise(13, "the BREAK is the same by the break weight; rounded down");
        int[][] breaks = {{0, 1, 0}, {9, 1, 0}, {10, 1, 1}, {19, 1, 1}, {20, 1, 2}, {181, 9, 162}, {181, 10, 181},
            {300, 1, 30}};
        for (int[] at : breaks) {
            Kickroom room = Rooms.ready();
            room.layer(0, 100, at[0], 10, false);
            room.drill(at[1]);
            room.casing(1);
            Check.due("break " + at[0] + " at " + at[1], room.pressure(3), at[2]);
        }
    }

    private static void promise13PoreDeepest() {
        Check.promise(13, "The PORE and the BREAK at the deepest depth");
        Kickroom room = Rooms.over(5000, 300, 0, false);
        room.casing(1);
        Check.due("pore", room.pressure(1), 150000);
        Check.due("break", room.pressure(3), 150000);
        Check.due("bottom", room.pressure(0), 150000);
        Check.due("foot", room.pressure(2), 150000);
    }

    private static void promise5RateOfTheLayer() {
        Check.promise(5, "times the rate of the LAYER of the depth; if that LAYER bears gas");
        for (int depth : new int[] {100, 101}) {
            Kickroom room = Rooms.ready();
            room.layer(0, 100, 300, 1000, true);
            room.layer(1, 100, 300, 100, false);
            room.drill(depth);
            room.mud(90);
            // 100 or 101 below: 1 + 10 barrels of gas, or 1 + 1 of liquid
            room.pass(1);
            Check.due("gas at " + depth, room.of(5), depth == 100 ? 11 : 0);
            Check.due("liquid at " + depth, room.of(7), depth == 100 ? 0 : 2);
        }
    }

    private static void promise18KillWeightLeast() {
        Check.promise(18, "the least whole weight which, times the depth, divided by 10, is not below the PORE");
        int[][] weights = {{0, 1, 0}, {9, 1, 0}, {10, 1, 10}, {19, 1, 10}, {20, 1, 20}, {105, 2, 105}, {104, 2, 100},
            {101, 3, 100}, {104, 3, 104}, {101, 9, 100}, {102, 9, 102}, {101, 10, 101}, {101, 11, 101}, {199, 7, 199},
            {198, 7, 198}, {197, 7, 196}};
        for (int[] at : weights) {
            Kickroom room = Rooms.over(at[1], at[0], 0, false);
            int kill = room.killWeight();
            Check.due("kill weight of " + at[0] + " at " + at[1], kill, at[2]);
            room.mud(kill);
            Check.due("it holds", room.pressure(0) >= room.pressure(1), true);
            room.mud(Math.max(0, kill - 1));
            Check.due("one less does not", kill > 0 && room.pressure(0) >= room.pressure(1), false);
        }
    }

    private static void promise18KillWeightEnds() {
        Check.promise(18, "Returns the kill weight: none, the most, at the first depth and at the deepest");
        Check.due("0 at 1", Rooms.over(1, 0, 0, false).killWeight(), 0);
        Check.due("300 at 1", Rooms.over(1, 300, 0, false).killWeight(), 300);
        Check.due("0 at 5000", Rooms.over(5000, 0, 0, false).killWeight(), 0);
        Check.due("1 at 5000", Rooms.over(5000, 1, 0, false).killWeight(), 1);
        Check.due("300 at 5000", Rooms.over(5000, 300, 0, false).killWeight(), 300);
        Check.due("at 100", inEachLayer(100).killWeight(), 10);
        Check.due("at 101", inEachLayer(101).killWeight(), 11);
        Check.due("CLOSED, a GAS, a CHOKE", Rooms.busyClosed().killWeight(), 300);
    }

    /** The LAYERS 0 to 3 get wider windows, one by one; the LAYER 49 has the widest. */
    private static Kickroom fourLayers() {
        Kickroom room = new Kickroom();
        room.layer(0, 140, 150, 10, false);
        room.layer(1, 130, 160, 10, false);
        room.layer(2, 120, 170, 10, false);
        room.layer(3, 110, 190, 10, false);
        room.layer(49, 90, 200, 10, false);
        return room;
    }

    private static void window(int from, int to, int pore, int breaks) {
        Kickroom room = fourLayers();
        Check.due("window(" + from + ", " + to + ", false)", room.window(from, to, false), pore);
        Check.due("window(" + from + ", " + to + ", true)", room.window(from, to, true), breaks);
    }

    private static void promise19WindowFromTo() {
        Check.promise(19, "from the LAYER of the metre below the former on to that of the latter, with both");
        window(0, 1, 140, 150);
        window(99, 100, 140, 150);
        window(99, 101, 140, 150);
        window(100, 101, 130, 160);
        window(100, 200, 130, 160);
        window(199, 200, 130, 160);
        window(199, 201, 130, 160);
        window(200, 201, 120, 170);
        window(200, 400, 120, 170);
        window(300, 400, 110, 190);
        window(300, 401, 110, 180);
        window(400, 401, 100, 180);
        Kickroom room = new Kickroom();
        room.layer(2, 150, 160, 10, false);
        Check.due("to 200, low", room.window(0, 200, false), 100);
        Check.due("to 201, low", room.window(0, 201, false), 150);
        Check.due("to 200, high", room.window(0, 200, true), 180);
        Check.due("to 201, high", room.window(0, 201, true), 160);
        Check.due("from 299, low", room.window(299, 5000, false), 150);
        Check.due("from 300, low", room.window(300, 5000, false), 100);
        Check.due("from 299, high", room.window(299, 5000, true), 160);
        Check.due("from 300, high", room.window(300, 5000, true), 180);
    }

    private static void promise19WindowGreatestAndLeast() {
        Check.promise(19, "from the greatest pore weight to the least break weight of these");
        for (int layer = 5; layer <= 9; layer++) {
            Kickroom room = new Kickroom();
            room.layer(layer, 101, 179, 10, false);
            Check.due("one more in " + layer, room.window(500, 1000, false), 101);
            Check.due("one less in " + layer, room.window(500, 1000, true), 179);
            room.layer(layer, 99, 181, 10, false);
            Check.due("one less in " + layer, room.window(500, 1000, false), 100);
            Check.due("one more in " + layer, room.window(500, 1000, true), 180);
        }
    }

    private static void promise19WindowEnds() {
        Check.promise(19, "from: 0 to 4999, to: from and 1 to 5000");
        window(0, 5000, 140, 150);
        window(4899, 4900, 100, 180);
        window(4899, 4901, 100, 180);
        window(4900, 4901, 90, 200);
        window(4900, 5000, 90, 200);
        window(4999, 5000, 90, 200);
    }

    /** Answers the casings for 5000 metres, the LAYERS 0 to 2 being as told and all others wide open. */
    private static Kickroom threeLayers(int... weights) {
        Kickroom room = new Kickroom();
        for (int layer = 0; layer < 50; layer++) {
            room.layer(layer, 0, 300, 10, false);
        }
        for (int layer = 0; layer < weights.length / 2; layer++) {
            room.layer(layer, weights[2 * layer], weights[2 * layer + 1], 10, false);
        }
        return room;
    }

    /** Each row: how many pieces there are, then the pore and break weights of the uppermost LAYERS. */
    private static final int[][] PIECES = {
        {1, 100, 150, 150, 160},
        {2, 100, 149, 150, 160},
        {1, 150, 160, 100, 150},
        {2, 150, 160, 100, 149},
        {1, 120, 120},
        {1, 120, 120, 120, 120, 120, 120},
        {2, 120, 120, 121, 121, 121, 121},
        {3, 120, 120, 121, 121, 122, 122},
        {3, 120, 120, 121, 121, 120, 120},
        {2, 100, 130, 120, 140, 135, 150},
        {1, 100, 135, 120, 140, 135, 150},
        {2, 100, 110, 105, 120, 115, 130},
        {1, 0, 300, 300, 300, 0, 300},
        {2, 0, 299, 300, 300, 0, 300},
        {1, 0, 0},
        {2, 1, 1, 0, 0},
        {2, 0, 0, 1, 1},
    };

    private static void promise20CasingsPieces() {
        Check.promise(20, "in each of them the greatest pore weight is not above the least break weight");
        for (int[] row : PIECES) {
            int[] weights = Arrays.copyOfRange(row, 1, row.length);
            String name = Arrays.toString(weights);
            Check.due("casings of " + name, threeLayers(weights).casings(5000), row[0]);
        }
        Check.due("casings, all alike", new Kickroom().casings(5000), 1);
        Check.due("casings, each of its own", stairs().casings(5000), 50);
    }

    private static void promise21CasingsAnewPieces() {
        Check.promise(21, "the same, found for each LAYER from all LAYERS above it");
        for (int[] row : PIECES) {
            int[] weights = Arrays.copyOfRange(row, 1, row.length);
            String name = Arrays.toString(weights);
            Check.due("casingsAnew of " + name, threeLayers(weights).casingsAnew(5000), row[0]);
        }
        Check.due("casingsAnew, all alike", new Kickroom().casingsAnew(5000), 1);
        Check.due("casingsAnew, each of its own", stairs().casingsAnew(5000), 50);
    }

    /** No two LAYERS can be in one piece. */
    private static Kickroom stairs() {
        Kickroom room = new Kickroom();
        for (int layer = 0; layer < 50; layer++) {
            room.layer(layer, 100 + layer, 100 + layer, 10, false);
        }
        return room;
    }

    /** The LAYER's pore weight is so much above its break weight. */
    private static Kickroom torn(int layer, int above) {
        Kickroom room = new Kickroom();
        room.layer(layer, 150 + above, 150, 10, false);
        return room;
    }

    private static void promise20CasingsCannotBe() {
        Check.promise(20, "NONE, if it cannot be");
        for (int layer : new int[] {0, 1, 25, 48, 49}) {
            Check.due("as heavy", torn(layer, 0).casings(5000), 1);
            Check.due("one heavier", torn(layer, 1).casings(5000), Kickroom.NONE);
            Check.due("to its first metre", torn(layer, 1).casings(100 * layer + 1), Kickroom.NONE);
            Check.due("above it", torn(layer, 1).casings(Math.max(1, 100 * layer)), layer == 0 ? Kickroom.NONE : 1);
        }
    }

    private static void promise21CasingsAnewCannotBe() {
        Check.promise(21, "NONE, if it cannot be");
        for (int layer : new int[] {0, 1, 25, 48, 49}) {
            Check.due("as heavy", torn(layer, 0).casingsAnew(5000), 1);
            Check.due("one heavier", torn(layer, 1).casingsAnew(5000), Kickroom.NONE);
            Check.due("to its first metre", torn(layer, 1).casingsAnew(100 * layer + 1), Kickroom.NONE);
            int above = layer == 0 ? Kickroom.NONE : 1;
            Check.due("above it", torn(layer, 1).casingsAnew(Math.max(1, 100 * layer)), above);
        }
    }

    private static void promise20CasingsToTheLayer() {
        Check.promise(20, "its LAYERS, from the LAYER 0 to that of the depth");
        Kickroom room = stairs();
        for (int layer = 0; layer < 50; layer++) {
            Check.due("to " + (100 * layer + 1), room.casings(100 * layer + 1), layer + 1);
            Check.due("to " + (100 * layer + 100), room.casings(100 * layer + 100), layer + 1);
        }
    }

    private static void promise21CasingsAnewToTheLayer() {
        Check.promise(21, "its LAYERS, from the LAYER 0 to that of the depth");
        Kickroom room = stairs();
        for (int layer = 49; layer >= 0; layer--) {
            Check.due("to " + (100 * layer + 1), room.casingsAnew(100 * layer + 1), layer + 1);
            Check.due("to " + (100 * layer + 100), room.casingsAnew(100 * layer + 100), layer + 1);
        }
    }
}
