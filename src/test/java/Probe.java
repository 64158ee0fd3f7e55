import java.util.ArrayList;
import java.util.List;
import java.util.function.Supplier;

/**
 * What an object answers to a long row of calls. An object may be used for 512 calls: a row has at most 400, so that
 * the way to it may have a hundred.
 */
final class Probe {
    private static final int[] DEPTHS = {1, 100, 101, 200, 201, 300, 5000};

    private final Kickroom room;
    private final List<String> answers = new ArrayList<>();

    private Probe(Kickroom room) {
        this.room = room;
    }

    /** All that can be asked; it changes nothing. */
    static List<String> asked(Kickroom room) {
        Probe probe = new Probe(room);
        probe.facts();
        probe.rock();
        probe.tests();
        return probe.answers;
    }

    /** All that can be asked, and then calls that bring to light what cannot: it changes much. */
    static List<String> played(Kickroom room) {
        Probe probe = new Probe(room);
        probe.facts();
        probe.rock();
        probe.tests();
        probe.playWell();
        probe.playMen();
        return probe.answers;
    }

    private void ask(String call, Supplier<Object> answer) {
        String told;
        try {
            told = String.valueOf(answer.get());
        } catch (IndexOutOfBoundsException | IllegalArgumentException | IllegalStateException e) {
            told = e.getClass().getSimpleName();
        }
        answers.add(call + "=" + told);
    }

    private void call(String call, Runnable body) {
        ask(call, () -> {
            body.run();
            return "done";
        });
    }

    private void facts() {
        for (int what = 0; what <= 5; what++) {
            int asked = what;
            ask("pressure(" + what + ")", () -> room.pressure(asked));
        }
        for (int what = 0; what <= 11; what++) {
            int asked = what;
            ask("of(" + what + ")", () -> room.of(asked));
        }
        ask("barriers()", room::barriers);
        ask("bars()", room::bars);
        ask("killWeight()", room::killWeight);
        ask("equivalent()", room::equivalent);
    }

    private void rock() {
        for (int to : DEPTHS) {
            ask("window(" + (to - 1) + ", low)", () -> room.window(to - 1, to, false));
            ask("window(" + (to - 1) + ", high)", () -> room.window(to - 1, to, true));
            ask("casings(" + to + ")", () -> room.casings(to));
            ask("casingsAnew(" + to + ")", () -> room.casingsAnew(to));
        }
        ask("window(0, 5000, low)", () -> room.window(0, 5000, false));
        ask("window(0, 5000, high)", () -> room.window(0, 5000, true));
        for (int minutes : new int[] {1, 2, 10, 2000}) {
            ask("ahead(" + minutes + ")", () -> room.ahead(minutes));
        }
    }

    private void tests() {
        int count = 0;
        do {
            int test = count;
            ask("ofTest(" + test + ", 1)", () -> room.ofTest(test, 1));
            count++;
        } while (!answers.get(answers.size() - 1).endsWith("Exception"));
        for (int back = 2; back <= 3; back++) {
            int test = count - back;
            for (int what = 0; what <= 3; what++) {
                int asked = what;
                ask("ofTest(" + test + ", " + what + ")", () -> room.ofTest(test, asked));
            }
        }
    }

    private void playWell() {
        ask("drill(3)", () -> room.drill(3));
        call("close()", room::close);
        ask("pump(1, 120)", () -> room.pump(1, 120));
        facts();
        ask("pass(2)", () -> room.pass(2));
        ask("open()", room::open);
        ask("mud(0)", () -> room.mud(0));
        ask("pass(2)", () -> room.pass(2));
        facts();
        call("close()", room::close);
        ask("pass(1)", () -> room.pass(1));
        ask("strength(1)", () -> room.strength(1));
        ask("pass(1)", () -> room.pass(1));
        ask("barriers()", room::barriers);
        facts();
    }

    private void playMen() {
        for (int person = 0; person <= 5; person++) {
            int asked = person;
            ask("stop(" + person + ", false)", () -> room.stop(asked, false));
        }
        call("close()", room::close);
        ask("pump(250, 300)", () -> room.pump(250, 300));
        ask("open()", room::open);
        ask("test(VALVE)", () -> room.test(Kickroom.VALVE, 1000));
        ask("test(CEMENT)", () -> room.test(Kickroom.CEMENT, 1000));
        ask("casing(500)", () -> room.casing(500));
        ask("test(CEMENT)", () -> room.test(Kickroom.CEMENT, 1000));
        ask("drill(60)", () -> room.drill(60));
        tests();
        facts();
    }
}
