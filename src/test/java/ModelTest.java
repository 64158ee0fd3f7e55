import java.util.ArrayList;
import java.util.List;
import java.util.function.LongSupplier;

/** Long runs of calls, the same ones in every run, on the class and on the model. */
public final class ModelTest {
    private static final int GAMES = 300;
    private static final int CALLS = 300;

    private long seed;
    private final int game;
    private final List<String> calls = new ArrayList<>();
    private Kickroom room;
    private Model model;

    private ModelTest(int game) {
        this.game = game;
        seed = 7919L * game + 17;
    }

    public static void main(String[] args) {
        for (int game = 0; game < GAMES; game++) {
            if (!new ModelTest(game).play()) {
                System.exit(1);
            }
        }
        System.out.println(GAMES + " games are as due");
    }

    /** From 0 up to below the bound. */
    private int draw(int bound) {
        seed = seed * 6364136223846793005L + 1442695040888963407L;
        return (int) ((seed >>> 33) % bound);
    }

    private boolean chance(int percent) {
        return draw(100) < percent;
    }

    private int between(int least, int most) {
        return least + draw(most - least + 1);
    }

    private boolean play() {
        room = new Kickroom();
        model = new Model();
        int layers = draw(51);
        for (int layer = 0; layer < layers; layer++) {
            layer(layer);
        }
        for (int call = 0; call < CALLS; call++) {
            String told = step();
            calls.add(told);
            if (told.contains(" BUT ") || call % 10 == 0 && !looksSame()) {
                System.out.println("game " + game + ": " + calls.subList(Math.max(0, calls.size() - 20), calls.size()));
                return false;
            }
        }
        return true;
    }

    private boolean looksSame() {
        List<String> got = Check.look(room);
        List<String> want = model.look();
        if (!got.equals(want)) {
            System.out.println("class: " + got);
            System.out.println("model: " + want);
            return false;
        }
        return true;
    }

    private static String answer(LongSupplier call) {
        try {
            return Long.toString(call.getAsLong());
        } catch (IndexOutOfBoundsException | IllegalArgumentException | IllegalStateException e) {
            return e.getClass().getSimpleName();
        }
    }

    private static String both(String call, LongSupplier got, LongSupplier want) {
        String g = answer(got);
        String w = answer(want);
        return g.equals(w) ? call + "=" + g : call + "=" + g + " BUT DUE IS " + w;
    }

    private String layer(int layer) {
        boolean isHard = game % 3 == 0;
        int pore = isHard ? between(-1, 301) : between(90, 130);
        int breaks = isHard ? between(-1, 301) : between(110, 200);
        int rate = chance(50) ? between(0, 1000) : between(0, 60);
        boolean bearsGas = chance(60);
        return both("layer(" + layer + ", " + pore + ", " + breaks + ", " + rate + ", " + bearsGas + ")",
                () -> {
                    room.layer(layer, pore, breaks, rate, bearsGas);
                    return 0;
                },
                () -> {
                    model.layer(layer, pore, breaks, rate, bearsGas);
                    return 0;
                });
    }

    private int weight() {
        if (chance(3)) {
            return draw(2) * 302 - 1;
        }
        return chance(15) ? between(0, 300) : chance(30) ? killWeight() : between(90, 140);
    }

    private int killWeight() {
        return room.of(0) > 0 ? room.killWeight() : 110;
    }

    private String step() {
        int kind = draw(100);
        if (kind < 6) {
            return layer(between(-1, 50));
        } else if (kind < 14) {
            int weight = weight();
            return both("mud(" + weight + ")", () -> room.mud(weight), () -> model.mud(weight));
        } else if (kind < 32) {
            int metres = chance(5) ? draw(2) * 501 : chance(40) ? between(1, 500) : between(1, 30);
            return both("drill(" + metres + ")", () -> room.drill(metres), () -> model.drill(metres));
        } else if (kind < 47) {
            int minutes = chance(3) ? draw(2) * 2001 : chance(10) ? between(1, 2000) : between(1, 20);
            return both("pass(" + minutes + ")", () -> room.pass(minutes), () -> model.pass(minutes));
        } else if (kind < 54) {
            return both("close()",
                    () -> {
                        room.close();
                        return 0;
                    },
                    () -> {
                        model.close();
                        return 0;
                    });
        } else if (kind < 59) {
            return both("open()", () -> room.open(), () -> model.open());
        } else if (kind < 72) {
            int minutes = chance(3) ? draw(2) * 501 : chance(10) ? between(1, 500) : between(1, 12);
            int weight = weight();
            return both("pump(" + minutes + ", " + weight + ")",
                    () -> room.pump(minutes, weight), () -> model.pump(minutes, weight));
        }
        return stepOfMen(kind);
    }

    private String stepOfMen(int kind) {
        if (kind < 79) {
            int barrels = chance(5) ? draw(2) * 1002 - 1 : between(0, 1000);
            return both("casing(" + barrels + ")", () -> room.casing(barrels), () -> model.casing(barrels));
        } else if (kind < 83) {
            int strength = chance(5) ? draw(2) * 100002 - 1 : chance(30) ? between(0, 2000) : between(0, 100000);
            return both("strength(" + strength + ")", () -> room.strength(strength), () -> model.strength(strength));
        } else if (kind < 93) {
            int what = chance(5) ? between(-1, 2) : draw(2);
            int pressure = chance(5) ? 999 + draw(2) * 99002 : chance(50) ? 1000 : between(1000, 20000);
            return both("test(" + what + ", " + pressure + ")",
                    () -> room.test(what, pressure) ? 1 : 0, () -> model.test(what, pressure) ? 1 : 0);
        } else if (kind < 97) {
            int person = between(-1, 6);
            boolean isSo = chance(20);
            return both("stop(" + person + ", " + isSo + ")",
                    () -> room.stop(person, isSo), () -> model.stop(person, isSo));
        }
        int from = between(-1, 5000);
        int to = chance(50) ? from + between(0, 300) : between(-1, 5001);
        boolean isHigh = chance(50);
        return both("window(" + from + ", " + to + ", " + isHigh + ")",
                () -> room.window(from, to, isHigh), () -> model.window(from, to, isHigh));
    }
}
