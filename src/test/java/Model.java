import java.util.ArrayList;
import java.util.List;

/** The document once more, word by word and without care for speed, to hold the class against. */
final class Model {
    private static final class Trial {
        int what;
        int pressure;
        boolean passed;
        int minute;
        boolean brokeSince;
        boolean casingSince;
    }

    private final long[][] layers = new long[50][];
    private final List<Trial> trials = new ArrayList<>();
    private final List<Integer> stopping = new ArrayList<>();
    private long depth;
    private long shoe;
    private long weight = 110;
    private boolean open = true;
    private long choke;
    private long charge;
    private long place;
    private long gas;
    private long liquid;
    private long minutes;
    private long vented;
    private long lost;
    private long pumped;
    private long pumpWeight = -1;
    private long valve = 10000;
    private long cement;
    private boolean flowed;
    private boolean broke;

    Model() {
        for (int k = 0; k < 50; k++) {
            layers[k] = new long[] {100, 180, 10, 0};
        }
    }

    private static void index(boolean isGood) {
        if (!isGood) {
            throw new IndexOutOfBoundsException();
        }
    }

    private static void argument(boolean isGood) {
        if (!isGood) {
            throw new IllegalArgumentException();
        }
    }

    private static void state(boolean isGood) {
        if (!isGood) {
            throw new IllegalStateException();
        }
    }

    private long[] layerOf(long d) {
        for (int k = 0; k < 50; k++) {
            if (d <= 100 * (k + 1)) {
                return layers[k];
            }
        }
        throw new AssertionError();
    }

    private long pore(long d) {
        return layerOf(d)[0] * d / 10;
    }

    private long breaks(long d) {
        return layerOf(d)[1] * d / 10;
    }

    private static long above(long a, long b) {
        return a > b ? a - b : 0;
    }

    private long column() {
        return (weight * above(depth, gas + liquid) + 100 * liquid) / 10;
    }

    private long bottom() {
        return column() + choke;
    }

    private long gasPressure() {
        long p = weight * place / 10 + choke;
        return p < 1 ? 1 : p;
    }

    private void measure() {
        gas = charge / gasPressure();
        if (gas > depth - liquid) {
            gas = depth - liquid;
        }
    }

    private long foot() {
        if (charge > 0 && place < shoe) {
            return choke + weight * above(shoe, gas) / 10;
        }
        return choke + weight * shoe / 10;
    }

    private void minute(boolean round) {
        minutes++;
        flowed = false;
        broke = false;
        if (charge > 0) {
            place -= round ? 20 : open ? 8 : 2;
            if (place < 0) {
                place = 0;
            }
            if (place == 0 && (open || round)) {
                vented += gas;
                charge = 0;
                gas = 0;
            }
        }
        if (charge > 0) {
            measure();
        }
        if (!open) {
            choke = above(pore(depth), column());
            if (choke > valve) {
                open = true;
                choke = 0;
                broke = true;
                for (Trial t : trials) {
                    t.brokeSince = true;
                }
            }
        }
        if (open && pore(depth) > bottom()) {
            flowIn();
        }
        if (shoe > 0 && foot() > breaks(shoe)) {
            lost += 5;
        }
    }

    private void flowIn() {
        flowed = true;
        long barrels = 1 + (pore(depth) - bottom()) * layerOf(depth)[2] / 10000;
        if (barrels > 40) {
            barrels = 40;
        }
        if (layerOf(depth)[3] == 1) {
            if (charge == 0) {
                place = depth;
            }
            charge += bottom() == 0 ? barrels : barrels * bottom();
            measure();
        } else {
            for (int b = 0; b < barrels && gas + liquid < depth; b++) {
                liquid++;
            }
        }
    }

    void layer(int layer, int pore, int breaks, int rate, boolean bearsGas) {
        index(layer >= 0 && layer <= 49);
        argument(pore >= 0 && pore <= 300 && breaks >= 0 && breaks <= 300 && rate >= 0 && rate <= 1000);
        state(depth <= 100L * layer);
        layers[layer] = new long[] {pore, breaks, rate, bearsGas ? 1 : 0};
    }

    long mud(int to) {
        argument(to >= 0 && to <= 300);
        state(open);
        long before = weight;
        weight = to;
        pumped = 0;
        return before;
    }

    long drill(int metres) {
        argument(metres >= 1 && metres <= 500);
        state(bars() == 0 && depth + metres <= 5000 && minutes + metres <= 100000);
        long done = 0;
        flowed = false;
        while (done < metres && !flowed) {
            done++;
            depth++;
            minute(false);
        }
        return done;
    }

    long pass(int count) {
        argument(count >= 1 && count <= 2000);
        state(minutes + count <= 100000);
        for (int i = 0; i < count; i++) {
            minute(false);
        }
        return gas + liquid;
    }

    void close() {
        state(open);
        open = false;
    }

    long open() {
        state(!open);
        open = true;
        long before = choke;
        choke = 0;
        return before;
    }

    long pump(int count, int with) {
        argument(count >= 1 && count <= 500 && with >= 0 && with <= 300);
        state(!open && depth != 0 && minutes + count <= 100000);
        if (with != pumpWeight) {
            pumpWeight = with;
            pumped = 0;
        }
        long done = 0;
        while (done < count) {
            minute(true);
            done++;
            if (broke) {
                break;
            }
            pumped += 20;
            if (pumped >= depth) {
                weight = with;
                liquid = 0;
                pumped = 0;
            }
        }
        return done;
    }

    long casing(int barrels) {
        argument(barrels >= 0 && barrels <= 1000);
        state(depth != shoe && charge == 0 && liquid == 0);
        cement = 1000L * barrels / (depth - shoe);
        shoe = depth;
        for (Trial t : trials) {
            t.casingSince = true;
        }
        return cement;
    }

    long strength(int to) {
        argument(to >= 0 && to <= 100000);
        long before = valve;
        valve = to;
        return before;
    }

    boolean test(int what, int pressure) {
        argument((what == 0 || what == 1) && pressure >= 1000 && pressure <= 100000);
        state(open && trials.size() < 60 && (what == 0 || shoe > 0));
        Trial t = new Trial();
        t.what = what;
        t.pressure = pressure;
        t.passed = pressure <= (what == 0 ? valve : cement);
        t.minute = (int) minutes;
        trials.add(t);
        return t.passed;
    }

    long stop(int person, boolean isSo) {
        index(person >= 0 && person <= 5);
        stopping.remove(Integer.valueOf(person));
        if (isSo) {
            stopping.add(person);
        }
        return stopping.size();
    }

    private Trial latest(int what) {
        Trial found = null;
        for (Trial t : trials) {
            if (t.what == what) {
                found = t;
            }
        }
        return found;
    }

    int barriers() {
        int sum = 0;
        if (charge == 0 && liquid == 0 && bottom() >= pore(depth)) {
            sum += 1;
        }
        Trial v = latest(0);
        if (v != null && v.passed && minutes - v.minute <= 20160 && !v.brokeSince) {
            sum += 2;
        }
        Trial c = latest(1);
        if (shoe > 0 && c != null && !c.casingSince && c.passed) {
            sum += 4;
        }
        return sum;
    }

    int bars() {
        int there = barriers();
        return !stopping.isEmpty() ? 1
                : !open ? 2
                : charge > 0 || liquid > 0 ? 3
                : there == 0 || there == 1 || there == 2 || there == 4 ? 4
                : depth == 5000 ? 5 : 0;
    }

    long pressure(int what) {
        argument(what >= 0 && what <= 5);
        return new long[] {bottom(), pore(depth), foot(), breaks(shoe), choke, charge > 0 ? gasPressure() : 0}[what];
    }

    long of(int what) {
        argument(what >= 0 && what <= 11);
        return new long[] {depth, shoe, weight, open ? 0 : 1, minutes, gas, charge > 0 ? place : -1,
            liquid, vented, lost, pumped, cement}[what];
    }

    int ofTest(int test, int what) {
        index(test >= 0 && test < trials.size());
        argument(what >= 0 && what <= 3);
        Trial t = trials.get(test);
        return new int[] {t.what, t.pressure, t.passed ? 1 : 0, t.minute}[what];
    }

    long killWeight() {
        state(depth > 0);
        long w = 0;
        while (w * depth / 10 < pore(depth)) {
            w++;
        }
        return w;
    }

    int killWeightOr110() {
        return depth > 0 ? (int) killWeight() : 110;
    }

    float equivalent() {
        state(shoe > 0);
        return (float) (10 * foot()) / (float) shoe;
    }

    long casings(int to) {
        argument(to >= 1 && to <= 5000);
        long[] least = new long[51];
        int count = (to + 99) / 100;
        for (int end = 1; end <= count; end++) {
            least[end] = Long.MAX_VALUE;
            for (int begin = 0; begin < end; begin++) {
                if (least[begin] != Long.MAX_VALUE && best(begin, end, 0) <= best(begin, end, 1)) {
                    least[end] = Math.min(least[end], least[begin] + 1);
                }
            }
        }
        return least[count] == Long.MAX_VALUE ? -1 : least[count];
    }

    private long best(int begin, int end, int what) {
        long best = layers[begin][what];
        for (int k = begin; k < end; k++) {
            best = what == 0 ? Math.max(best, layers[k][0]) : Math.min(best, layers[k][1]);
        }
        return best;
    }

    long window(int from, int to, boolean isHigh) {
        argument(from >= 0 && from <= 4999 && to > from && to <= 5000);
        return best(from / 100, (to + 99) / 100, isHigh ? 1 : 0);
    }

    long ahead(int count) {
        Model copy = new Model();
        System.arraycopy(layers, 0, copy.layers, 0, 50);
        copy.depth = depth;
        copy.shoe = shoe;
        copy.weight = weight;
        copy.open = open;
        copy.choke = choke;
        copy.charge = charge;
        copy.place = place;
        copy.gas = gas;
        copy.liquid = liquid;
        copy.valve = valve;
        return copy.pass(count);
    }
}
