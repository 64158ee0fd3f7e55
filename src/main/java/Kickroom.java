import java.util.Arrays;

/** A well that wants to blow, as the document Kickroom tells it. */
public final class Kickroom {
    /** None. */
    public static final int NONE = -1;
    /** What is tested. */
    public static final int VALVE = 0, CEMENT = 1;

    private static final int LAYERS = 50;
    private static final int LAYER_METRES = 100;
    private static final int DEEPEST = 5000;
    private static final int MOST_WEIGHT = 300;
    private static final int MOST_MINUTES = 100000;
    private static final int MOST_TESTS = 60;
    private static final int PERSONS = 6;
    private static final int TEST_HOLDS = 20160;
    private static final int PUMPED_A_MINUTE = 20;

    private final Rock rock;
    private final Well well;
    /** What ahead() lets its MINUTES go by in, so that the well itself stays as it is. */
    private final Well trial;
    private final Tests tests;
    /** One bit for each person. */
    private int stops;
    private int pumped;
    private int latestPumpedWeight;
    private int cement;

    public Kickroom() {
        rock = new Rock();
        well = new Well(rock);
        trial = new Well(rock);
        tests = new Tests();
        latestPumpedWeight = NONE;
    }

    // ---- rock, mud

    public void layer(int layer, int pore, int breaks, int rate, boolean bearsGas)
            throws IndexOutOfBoundsException, IllegalArgumentException, IllegalStateException {
        if (!isWithin(layer, 0, LAYERS - 1)) {
            throw new IndexOutOfBoundsException("there is no such layer");
        }
        if (!isWithin(pore, 0, MOST_WEIGHT) || !isWithin(breaks, 0, MOST_WEIGHT) || !isWithin(rate, 0, 1000)) {
            throw new IllegalArgumentException("pore, breaks or rate is out of range");
        }
        if (well.depth > layer * LAYER_METRES) {
            throw new IllegalStateException("the layer is drilled into");
        }
        rock.tellLayer(layer, pore, breaks, rate, bearsGas);
    }

    public int mud(int weight) throws IllegalArgumentException, IllegalStateException {
        if (!isWithin(weight, 0, MOST_WEIGHT)) {
            throw new IllegalArgumentException("weight is out of range");
        }
        if (well.isClosed) {
            throw new IllegalStateException("the well is closed");
        }
        int before = well.weight;
        well.weight = weight;
        pumped = 0;
        return before;
    }

    // ---- drilling, minutes, the valve

    public int drill(int metres) throws IllegalArgumentException, IllegalStateException {
        if (!isWithin(metres, 1, 500)) {
            throw new IllegalArgumentException("metres is out of range");
        }
        if (bars() != 0 || well.depth + metres > DEEPEST || !hasMinutes(metres)) {
            throw new IllegalStateException("drilling is barred, or would go too deep or too long");
        }
        for (int drilled = 1; drilled <= metres; drilled++) {
            well.depth++;
            if (well.letMinuteGo(false)) {
                return drilled;
            }
        }
        return metres;
    }

    public int pass(int minutes) throws IllegalArgumentException, IllegalStateException {
        if (!isWithin(minutes, 1, 2000)) {
            throw new IllegalArgumentException("minutes is out of range");
        }
        if (!hasMinutes(minutes)) {
            throw new IllegalStateException("the minutes would be too many");
        }
        return well.letMinutesGo(minutes);
    }

    public void close() throws IllegalStateException {
        if (well.isClosed) {
            throw new IllegalStateException("the well is closed");
        }
        well.isClosed = true;
    }

    public int open() throws IllegalStateException {
        if (!well.isClosed) {
            throw new IllegalStateException("the well is open");
        }
        int before = well.choke;
        well.isClosed = false;
        well.choke = 0;
        return before;
    }

    public int pump(int minutes, int weight) throws IllegalArgumentException, IllegalStateException {
        if (!isWithin(minutes, 1, 500) || !isWithin(weight, 0, MOST_WEIGHT)) {
            throw new IllegalArgumentException("minutes or weight is out of range");
        }
        if (!well.isClosed || well.depth == 0 || !hasMinutes(minutes)) {
            throw new IllegalStateException("the well is open or has no depth, or the minutes would be too many");
        }
        if (weight != latestPumpedWeight) {
            pumped = 0;
        }
        latestPumpedWeight = weight;
        for (int gone = 1; gone <= minutes; gone++) {
            well.letMinuteGo(true);
            if (!well.isClosed) {
                return gone;
            }
            pumpOn(weight);
        }
        return minutes;
    }

    private void pumpOn(int weight) {
        pumped += PUMPED_A_MINUTE;
        if (pumped >= well.depth) {
            well.weight = weight;
            well.liquid = 0;
            pumped = 0;
        }
    }

    // ---- casings, tests, stops

    public int casing(int barrels) throws IllegalArgumentException, IllegalStateException {
        if (!isWithin(barrels, 0, 1000)) {
            throw new IllegalArgumentException("barrels is out of range");
        }
        int deeper = well.depth - well.shoe;
        if (deeper <= 0 || well.hasInflow()) {
            throw new IllegalStateException("the depth is the shoe, or there is gas or liquid");
        }
        cement = 1000 * barrels / deeper;
        well.shoe = well.depth;
        tests.latestOfCement = NONE;
        return cement;
    }

    public int strength(int strength) throws IllegalArgumentException {
        if (!isWithin(strength, 0, 100000)) {
            throw new IllegalArgumentException("strength is out of range");
        }
        int before = well.valveStrength;
        well.valveStrength = strength;
        return before;
    }

    public boolean test(int what, int pressure) throws IllegalArgumentException, IllegalStateException {
        if (!isWithin(what, VALVE, CEMENT) || !isWithin(pressure, 1000, 100000)) {
            throw new IllegalArgumentException("what or pressure is out of range");
        }
        if (well.isClosed || tests.count >= MOST_TESTS || what == CEMENT && well.shoe == 0) {
            throw new IllegalStateException("the well is closed, there were 60 tests, or there is no casing");
        }
        boolean isPassed = pressure <= (what == VALVE ? well.valveStrength : cement);
        tests.keep(what, pressure, isPassed, well.minutes);
        if (what == VALVE) {
            well.hasBrokenSinceTest = false;
        }
        return isPassed;
    }

    public int stop(int person, boolean isSo) throws IndexOutOfBoundsException {
        if (!isWithin(person, 0, PERSONS - 1)) {
            throw new IndexOutOfBoundsException("there is no such person");
        }
        int bit = 1 << person;
        stops = isSo ? stops | bit : stops & ~bit;
        return Integer.bitCount(stops);
    }

    // ---- what is asked

    public int pressure(int what) throws IllegalArgumentException {
        switch (what) {
            case 0: return well.bottom();
            case 1: return rock.poreAt(well.depth);
            case 2: return well.foot();
            case 3: return rock.breakAt(well.shoe);
            case 4: return well.choke;
            case 5: return well.hasGas() ? well.gasPressure() : 0;
            default: throw new IllegalArgumentException("what is out of range");
        }
    }

    public long of(int what) throws IllegalArgumentException {
        switch (what) {
            case 0: return well.depth;
            case 1: return well.shoe;
            case 2: return well.weight;
            case 3: return well.isClosed ? 1 : 0;
            case 4: return well.minutes;
            case 5: return well.gas;
            case 6: return well.hasGas() ? well.place : NONE;
            case 7: return well.liquid;
            case 8: return well.vented;
            case 9: return well.lost;
            case 10: return pumped;
            case 11: return cement;
            default: throw new IllegalArgumentException("what is out of range");
        }
    }

    public int barriers() {
        return (isMudBarrier() ? 1 : 0) + (isValveBarrier() ? 2 : 0) + (isCementBarrier() ? 4 : 0);
    }

    public int bars() {
        if (stops != 0) {
            return 1;
        }
        if (well.isClosed) {
            return 2;
        }
        if (well.hasInflow()) {
            return 3;
        }
        if (Integer.bitCount(barriers()) < 2) {
            return 4;
        }
        return well.depth >= DEEPEST ? 5 : 0;
    }

    public int ofTest(int test, int what) throws IndexOutOfBoundsException, IllegalArgumentException {
        if (!isWithin(test, 0, tests.count - 1)) {
            throw new IndexOutOfBoundsException("there is no such test");
        }
        switch (what) {
            case 0: return read(tests.whats, test);
            case 1: return read(tests.pressures, test);
            case 2: return read(tests.passes, test);
            case 3: return read(tests.minutes, test);
            default: throw new IllegalArgumentException("what is out of range");
        }
    }

    public int killWeight() throws IllegalStateException {
        int depth = well.depth;
        if (depth <= 0) {
            throw new IllegalStateException("the depth is 0");
        }
        return (10 * rock.poreAt(depth) + depth - 1) / depth;
    }

    public int window(int from, int to, boolean isHigh) throws IllegalArgumentException {
        if (!isWithin(from, 0, DEEPEST - 1) || !isWithin(to, from + 1, DEEPEST)) {
            throw new IllegalArgumentException("from or to is out of range");
        }
        int first = Rock.layerOf(from + 1);
        int last = Rock.layerOf(to);
        return isHigh ? rock.leastBreak(first, last) : rock.greatestPore(first, last);
    }

    public int casings(int to) throws IllegalArgumentException {
        if (!isWithin(to, 1, DEEPEST)) {
            throw new IllegalArgumentException("to is out of range");
        }
        return rock.piecesFromAbove(Rock.layerOf(to));
    }

    public int casingsAnew(int to) throws IllegalArgumentException {
        if (!isWithin(to, 1, DEEPEST)) {
            throw new IllegalArgumentException("to is out of range");
        }
        return rock.piecesFromAll(Rock.layerOf(to));
    }

    public float equivalent() throws IllegalStateException {
        int shoe = well.shoe;
        if (shoe <= 0) {
            throw new IllegalStateException("the shoe is 0");
        }
        return (float) (10 * well.foot()) / (float) shoe;
    }

    public int ahead(int minutes) throws IllegalArgumentException {
        if (!isWithin(minutes, 1, 2000)) {
            throw new IllegalArgumentException("minutes is out of range");
        }
        trial.become(well);
        return trial.letMinutesGo(minutes);
    }

    // ---- what the calls share

    private boolean hasMinutes(int minutes) {
        return well.minutes + minutes <= MOST_MINUTES;
    }

    private boolean isMudBarrier() {
        return !well.hasInflow() && well.bottom() >= rock.poreAt(well.depth);
    }

    private boolean isValveBarrier() {
        int latest = tests.latestOfValve;
        return tests.isPassed(latest)
                && well.minutes - read(tests.minutes, latest) <= TEST_HOLDS
                && !well.hasBrokenSinceTest;
    }

    private boolean isCementBarrier() {
        return well.shoe > 0 && tests.isPassed(tests.latestOfCement);
    }

    private static boolean isWithin(int value, int least, int most) {
        return value >= least && value <= most;
    }

    private static int read(int[] row, int index) {
        return index >= 0 && index < row.length ? row[index] : 0;
    }

    private static void write(int[] row, int index, int value) {
        if (index >= 0 && index < row.length) {
            row[index] = value;
        }
    }

    /** The LAYERS, and what is asked of them alone. */
    private static final class Rock {
        private final int[] pores;
        private final int[] breaks;
        private final int[] rates;
        /** 1 for a LAYER that bears gas, 0 for one that bears liquid. */
        private final int[] gases;
        /** For each LAYER, as piecesFromAll() finds it: kept to be used again. */
        private final int[] pieces;

        private Rock() {
            pores = new int[LAYERS];
            breaks = new int[LAYERS];
            rates = new int[LAYERS];
            gases = new int[LAYERS];
            pieces = new int[LAYERS];
            Arrays.fill(pores, 100);
            Arrays.fill(breaks, 180);
            Arrays.fill(rates, 10);
        }

        private void tellLayer(int layer, int pore, int breakWeight, int rate, boolean bearsGas) {
            write(pores, layer, pore);
            write(breaks, layer, breakWeight);
            write(rates, layer, rate);
            write(gases, layer, bearsGas ? 1 : 0);
        }

        private static int layerOf(int depth) {
            return depth <= 0 ? 0 : (depth - 1) / LAYER_METRES;
        }

        private int poreAt(int depth) {
            return read(pores, layerOf(depth)) * depth / 10;
        }

        private int breakAt(int depth) {
            return read(breaks, layerOf(depth)) * depth / 10;
        }

        private int rateAt(int depth) {
            return read(rates, layerOf(depth));
        }

        private boolean bearsGasAt(int depth) {
            return read(gases, layerOf(depth)) == 1;
        }

        private int greatestPore(int first, int last) {
            int greatest = read(pores, first);
            for (int layer = first + 1; layer <= last; layer++) {
                greatest = Math.max(greatest, read(pores, layer));
            }
            return greatest;
        }

        private int leastBreak(int first, int last) {
            int least = read(breaks, first);
            for (int layer = first + 1; layer <= last; layer++) {
                least = Math.min(least, read(breaks, layer));
            }
            return least;
        }

        /** A part of a piece that holds holds too, so each piece may go on as far as it can. */
        private int piecesFromAbove(int last) {
            int count = 1;
            int pore = 0;
            int breakWeight = MOST_WEIGHT;
            for (int layer = 0; layer <= last; layer++) {
                int ownPore = read(pores, layer);
                int ownBreak = read(breaks, layer);
                if (ownPore > ownBreak) {
                    return NONE;
                }
                pore = Math.max(pore, ownPore);
                breakWeight = Math.min(breakWeight, ownBreak);
                if (pore > breakWeight) {
                    count++;
                    pore = ownPore;
                    breakWeight = ownBreak;
                }
            }
            return count;
        }

        private int piecesFromAll(int last) {
            for (int layer = 0; layer <= last; layer++) {
                write(pieces, layer, leastPiecesTo(layer));
            }
            return read(pieces, last);
        }

        /** Tries every LAYER above as the first one of the lowest piece. */
        private int leastPiecesTo(int last) {
            int least = NONE;
            int pore = 0;
            int breakWeight = MOST_WEIGHT;
            for (int first = last; first >= 0; first--) {
                pore = Math.max(pore, read(pores, first));
                breakWeight = Math.min(breakWeight, read(breaks, first));
                int above = first == 0 ? 0 : read(pieces, first - 1);
                boolean canBe = pore <= breakWeight && above != NONE;
                if (canBe && (least == NONE || above + 1 < least)) {
                    least = above + 1;
                }
            }
            return least;
        }
    }

    /** THE WELL, and what goes by in it in a MINUTE. */
    private static final class Well {
        private final Rock rock;
        private int depth;
        private int shoe;
        private int weight;
        private boolean isClosed;
        private int choke;
        private int valveStrength;
        private boolean hasBrokenSinceTest;
        private long charge;
        private int place;
        private int gas;
        private int liquid;
        private long vented;
        private int lost;
        private int minutes;

        private Well(Rock rock) {
            this.rock = rock;
            weight = 110;
            valveStrength = 10000;
        }

        private void become(Well other) {
            depth = other.depth;
            shoe = other.shoe;
            weight = other.weight;
            isClosed = other.isClosed;
            choke = other.choke;
            valveStrength = other.valveStrength;
            hasBrokenSinceTest = other.hasBrokenSinceTest;
            charge = other.charge;
            place = other.place;
            gas = other.gas;
            liquid = other.liquid;
            vented = other.vented;
            lost = other.lost;
            minutes = other.minutes;
        }

        private boolean hasGas() {
            return charge > 0;
        }

        private boolean hasInflow() {
            return hasGas() || liquid > 0;
        }

        private int column() {
            return (weight * Math.max(0, depth - gas - liquid) + 100 * liquid) / 10;
        }

        private int bottom() {
            return column() + choke;
        }

        private int gasPressure() {
            return Math.max(1, weight * place / 10 + choke);
        }

        private int foot() {
            boolean isGasAbove = hasGas() && place < shoe;
            int metres = isGasAbove ? Math.max(0, shoe - gas) : shoe;
            return choke + weight * metres / 10;
        }

        private int letMinutesGo(int count) {
            for (int gone = 0; gone < count; gone++) {
                letMinuteGo(false);
            }
            return gas + liquid;
        }

        /** Answers whether something flowed in. */
        private boolean letMinuteGo(boolean isPumped) {
            minutes++;
            raiseGas(isPumped);
            ventGas(isPumped);
            measureGas();
            setChoke();
            boolean hasFlowed = flowIn();
            loseAtShoe();
            return hasFlowed;
        }

        private void raiseGas(boolean isPumped) {
            if (hasGas()) {
                int rise = isPumped ? 20 : isClosed ? 2 : 8;
                place = Math.max(0, place - rise);
            }
        }

        private void ventGas(boolean isPumped) {
            if (hasGas() && place == 0 && (isPumped || !isClosed)) {
                vented += gas;
                charge = 0;
                gas = 0;
            }
        }

        private void measureGas() {
            int divisor = gasPressure();
            if (hasGas() && divisor > 0) {
                gas = (int) Math.min(charge / divisor, (long) (depth - liquid));
            }
        }

        private void setChoke() {
            if (!isClosed) {
                return;
            }
            choke = Math.max(0, rock.poreAt(depth) - column());
            if (choke > valveStrength) {
                isClosed = false;
                choke = 0;
                hasBrokenSinceTest = true;
            }
        }

        private boolean flowIn() {
            int under = rock.poreAt(depth) - bottom();
            if (isClosed || under <= 0) {
                return false;
            }
            int barrels = Math.min(40, 1 + under * rock.rateAt(depth) / 10000);
            if (!rock.bearsGasAt(depth)) {
                liquid += Math.min(barrels, depth - gas - liquid);
                return true;
            }
            if (!hasGas()) {
                place = depth;
            }
            charge += (long) barrels * Math.max(1, bottom());
            measureGas();
            return true;
        }

        private void loseAtShoe() {
            if (shoe > 0 && foot() > rock.breakAt(shoe)) {
                lost += 5;
            }
        }
    }

    /** The tests, which stay on record, and which of them count for the BARRIERS. */
    private static final class Tests {
        private final int[] whats;
        private final int[] pressures;
        /** 1 for a test that is PASSED, 0 for one that FAILED. */
        private final int[] passes;
        private final int[] minutes;
        private int count;
        private int latestOfValve;
        /** Since the casing was set. */
        private int latestOfCement;

        private Tests() {
            whats = new int[MOST_TESTS];
            pressures = new int[MOST_TESTS];
            passes = new int[MOST_TESTS];
            minutes = new int[MOST_TESTS];
            latestOfValve = NONE;
            latestOfCement = NONE;
        }

        private void keep(int what, int pressure, boolean isPassed, int minute) {
            write(whats, count, what);
            write(pressures, count, pressure);
            write(passes, count, isPassed ? 1 : 0);
            write(minutes, count, minute);
            if (what == VALVE) {
                latestOfValve = count;
            } else {
                latestOfCement = count;
            }
            count++;
        }

        private boolean isPassed(int test) {
            return test != NONE && read(passes, test) == 1;
        }
    }
}
