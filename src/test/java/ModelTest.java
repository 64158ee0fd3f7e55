import java.util.ArrayList;
import java.util.List;
import java.util.function.Supplier;

/** Long runs of calls, the same ones in every run, on the class and on the model; 512 calls at most on an object. */
public final class ModelTest {
    private static final int GAMES = 1500;
    private static final int CALLS = 460;

    private long seed;
    private final int game;
    private final List<String> calls = new ArrayList<>();
    private final Kickroom room = new Kickroom();
    private final Model model = new Model();

    private ModelTest(int game) {
        this.game = game;
        seed = 7919L * game + 17;
    }

    public static void main(String[] args) {
        for (int game = 0; game < GAMES; game++) {
            if (!new ModelTest(game).play()) {
                System.exit(1);
            }
        }
        System.out.println(GAMES + " games are as due");
    }

    /** From 0 up to below the bound. */
    private int draw(int bound) {
        seed = seed * 6364136223846793005L + 1442695040888963407L;
        return (int) ((seed >>> 33) % bound);
    }

    private boolean chance(int percent) {
        return draw(100) < percent;
    }

    private int between(int least, int most) {
        return least + draw(most - least + 1);
    }

    private boolean play() {
        int layers = draw(51);
        for (int layer = 0; layer < layers; layer++) {
            calls.add(layer(layer));
        }
        while (calls.size() < CALLS) {
            calls.add(step());
            if (calls.get(calls.size() - 1).contains(" BUT ")) {
                System.out.println("game " + game + ": " + calls.subList(Math.max(0, calls.size() - 20), calls.size()));
                return false;
            }
        }
        return true;
    }

    private static String answer(Supplier<Object> call) {
        try {
            return String.valueOf(call.get());
        } catch (IndexOutOfBoundsException | IllegalArgumentException | IllegalStateException e) {
            return e.getClass().getSimpleName();
        }
    }

    private static String both(String call, Supplier<Object> got, Supplier<Object> want) {
        String g = answer(got);
        String w = answer(want);
        return g.equals(w) ? call + "=" + g : call + "=" + g + " BUT DUE IS " + w;
    }

    private static String bothDone(String call, Runnable got, Runnable want) {
        return both(call, done(got), done(want));
    }

    private static Supplier<Object> done(Runnable call) {
        return () -> {
            call.run();
            return "done";
        };
    }

    private String layer(int layer) {
        boolean isHard = game % 3 == 0;
        int pore = isHard ? between(-1, 301) : between(90, 130);
        int breaks = isHard ? between(-1, 301) : between(110, 200);
        int rate = chance(50) ? between(0, 1000) : between(0, 60);
        boolean bearsGas = chance(60);
        return bothDone("layer(" + layer + ", " + pore + ", " + breaks + ", " + rate + ", " + bearsGas + ")",
                () -> room.layer(layer, pore, breaks, rate, bearsGas),
                () -> model.layer(layer, pore, breaks, rate, bearsGas));
    }

    private int weight() {
        if (chance(3)) {
            return draw(2) * 302 - 1;
        }
        return chance(15) ? between(0, 300) : chance(30) ? model.killWeightOr110() : between(90, 140);
    }

    private String step() {
        int kind = draw(130);
        if (kind < 14) {
            return stepOfRock(kind);
        } else if (kind < 32) {
            int metres = chance(5) ? draw(2) * 501 : chance(40) ? between(1, 500) : between(1, 30);
            return both("drill(" + metres + ")", () -> room.drill(metres), () -> model.drill(metres));
        } else if (kind < 47) {
            int minutes = chance(3) ? draw(2) * 2001 : chance(10) ? between(1, 2000) : between(1, 20);
            return both("pass(" + minutes + ")", () -> room.pass(minutes), () -> model.pass(minutes));
        } else if (kind < 54) {
            return bothDone("close()", room::close, model::close);
        } else if (kind < 59) {
            return both("open()", room::open, model::open);
        } else if (kind < 72) {
            int minutes = chance(3) ? draw(2) * 501 : chance(10) ? between(1, 500) : between(1, 12);
            int weight = weight();
            return both("pump(" + minutes + ", " + weight + ")",
                    () -> room.pump(minutes, weight), () -> model.pump(minutes, weight));
        } else if (kind < 96) {
            return stepOfMen(kind);
        }
        return kind < 120 ? ask() : askOfRock();
    }

    private String stepOfRock(int kind) {
        if (kind < 6) {
            return layer(between(-1, 50));
        }
        int weight = weight();
        return both("mud(" + weight + ")", () -> room.mud(weight), () -> model.mud(weight));
    }

    private String stepOfMen(int kind) {
        if (kind < 79) {
            int barrels = chance(5) ? draw(2) * 1002 - 1 : between(0, 1000);
            return both("casing(" + barrels + ")", () -> room.casing(barrels), () -> model.casing(barrels));
        } else if (kind < 83) {
            int strength = chance(5) ? draw(2) * 100002 - 1 : chance(30) ? between(0, 2000) : between(0, 100000);
            return both("strength(" + strength + ")", () -> room.strength(strength), () -> model.strength(strength));
        } else if (kind < 92) {
            int what = chance(5) ? between(-1, 2) : draw(2);
            int pressure = chance(5) ? 999 + draw(2) * 99002 : chance(50) ? 1000 : between(1000, 20000);
            return both("test(" + what + ", " + pressure + ")",
                    () -> room.test(what, pressure), () -> model.test(what, pressure));
        }
        int person = between(-1, 6);
        boolean isSo = chance(20);
        return both("stop(" + person + ", " + isSo + ")",
                () -> room.stop(person, isSo), () -> model.stop(person, isSo));
    }

    private String ask() {
        int what = draw(24);
        if (what < 7) {
            return both("pressure(" + what + ")", () -> room.pressure(what), () -> model.pressure(what));
        } else if (what < 20) {
            return both("of(" + (what - 7) + ")", () -> room.of(what - 7), () -> model.of(what - 7));
        } else if (what == 20) {
            return both("barriers()", room::barriers, model::barriers);
        } else if (what == 21) {
            return both("bars()", room::bars, model::bars);
        } else if (what == 22) {
            return both("equivalent()", room::equivalent, model::equivalent);
        }
        int minutes = chance(10) ? between(0, 2001) : between(1, 30);
        return both("ahead(" + minutes + ")", () -> room.ahead(minutes), () -> model.ahead(minutes));
    }

    private String askOfRock() {
        int from = between(-1, 5000);
        int to = chance(50) ? from + between(0, 300) : between(-1, 5001);
        boolean isHigh = chance(50);
        int test = chance(20) ? between(-1, 60) : between(-1, 9);
        int what = between(-1, 4);
        switch (draw(5)) {
            case 0: return both("casings(" + to + ")", () -> room.casings(to), () -> model.casings(to));
            case 1: return both("casingsAnew(" + to + ")", () -> room.casingsAnew(to), () -> model.casings(to));
            case 2: return both("ofTest(" + test + ", " + what + ")",
                    () -> room.ofTest(test, what), () -> model.ofTest(test, what));
            case 3: return both("killWeight()", room::killWeight, model::killWeight);
            default: return both("window(" + from + ", " + to + ", " + isHigh + ")",
                    () -> room.window(from, to, isHigh), () -> model.window(from, to, isHigh));
        }
    }
}
