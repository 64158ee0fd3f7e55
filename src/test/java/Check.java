import java.util.ArrayList;
import java.util.List;

/** What the tests share: they print each answer that is not due, and end with exit code 1 if there was one. */
final class Check {
    private static int wrong = 0;

    private Check() {
    }

    static void due(String call, double got, double want) {
        if (got != want) {
            wrong++;
            System.out.println(call + " answered " + got + ", due is " + want);
        }
    }

    static void due(String call, boolean got, boolean want) {
        due(call, got ? 1 : 0, want ? 1 : 0);
    }

    static void due(String call, List<String> got, List<String> want) {
        for (int i = 0; i < want.size(); i++) {
            if (!got.get(i).equals(want.get(i))) {
                wrong++;
                System.out.println(call + ": " + got.get(i) + ", due is " + want.get(i));
            }
        }
    }

    /** The call must throw just this exception, and change nothing. */
    static void thrown(String call, Class<? extends RuntimeException> want, Kickroom room, Runnable body) {
        List<String> before = look(room);
        Class<?> got = null;
        try {
            body.run();
        } catch (RuntimeException e) {
            got = e.getClass();
        }
        if (got != want) {
            wrong++;
            System.out.println(call + " threw " + got + ", due is " + want);
        }
        due(call + " changed", look(room), before);
    }

    static void outOfBounds(String call, Kickroom room, Runnable body) {
        thrown(call, IndexOutOfBoundsException.class, room, body);
    }

    static void badArgument(String call, Kickroom room, Runnable body) {
        thrown(call, IllegalArgumentException.class, room, body);
    }

    static void badState(String call, Kickroom room, Runnable body) {
        thrown(call, IllegalStateException.class, room, body);
    }

    /** All that can be asked, each with its answer; asking must change nothing, so it is asked twice. */
    static List<String> look(Kickroom room) {
        List<String> first = ask(room);
        due("what is asked twice", ask(room), first);
        return first;
    }

    private static List<String> ask(Kickroom room) {
        List<String> answers = new ArrayList<>();
        for (int what = 0; what <= 5; what++) {
            answers.add("pressure(" + what + ")=" + room.pressure(what));
        }
        for (int what = 0; what <= 11; what++) {
            answers.add("of(" + what + ")=" + room.of(what));
        }
        answers.add("barriers()=" + room.barriers());
        answers.add("bars()=" + room.bars());
        if (room.of(0) > 0) {
            answers.add("killWeight()=" + room.killWeight());
        }
        if (room.of(1) > 0) {
            answers.add("equivalent()=" + room.equivalent());
        }
        for (int from = 0; from < 5000; from += 100) {
            answers.add("window(" + from + ")=" + room.window(from, from + 100, false)
                    + ".." + room.window(from, from + 100, true));
            answers.add("casings(" + (from + 1) + ")=" + room.casings(from + 1) + "=" + room.casingsAnew(from + 1));
        }
        for (int minutes = 1; minutes <= 64; minutes *= 4) {
            answers.add("ahead(" + minutes + ")=" + room.ahead(minutes));
        }
        answers.add("tests=" + tests(room));
        return answers;
    }

    private static String tests(Kickroom room) {
        StringBuilder all = new StringBuilder();
        for (int test = 0; test < 60; test++) {
            try {
                all.append(" " + room.ofTest(test, 0) + '/' + room.ofTest(test, 1)
                        + '/' + room.ofTest(test, 2) + '/' + room.ofTest(test, 3));
            } catch (IndexOutOfBoundsException e) {
                return all.toString();
            }
        }
        return all.toString();
    }

    static void finish() {
        System.out.println(wrong == 0 ? "all answers are as due" : wrong + " answers are not as due");
        if (wrong != 0) {
            System.exit(1);
        }
    }
}
