import java.util.List;
import java.util.function.Consumer;
import java.util.function.Supplier;

/** What the tests share: they print each answer that is not due, and end with exit code 1 if there was one. */
final class Check {
    private static int answers = 0;
    private static int wrong = 0;
    private static String sentence = "";

    private Check() {
    }

    /** Names the promise, and the document's words, that the checks from here on hold. */
    static void promise(int number, String words) {
        sentence = "promise " + number + ", \"" + words + "\": ";
    }

    static void due(String call, double got, double want) {
        answers++;
        if (got != want) {
            wrong(call + " answered " + got + ", due is " + want);
        }
    }

    static void due(String call, boolean got, boolean want) {
        due(call, got ? 1 : 0, want ? 1 : 0);
    }

    static void due(String call, List<String> got, List<String> want) {
        answers++;
        if (got.size() != want.size()) {
            wrong(call + " has " + got.size() + " answers, due are " + want.size());
            return;
        }
        for (int i = 0; i < want.size(); i++) {
            if (!got.get(i).equals(want.get(i))) {
                wrong(call + ": " + got.get(i) + ", due is " + want.get(i));
            }
        }
    }

    private static void wrong(String what) {
        wrong++;
        System.out.println(sentence + what);
    }

    static void outOfBounds(String call, Supplier<Kickroom> way, Consumer<Kickroom> body) {
        refused(call, IndexOutOfBoundsException.class, way, body);
    }

    static void badArgument(String call, Supplier<Kickroom> way, Consumer<Kickroom> body) {
        refused(call, IllegalArgumentException.class, way, body);
    }

    static void badState(String call, Supplier<Kickroom> way, Consumer<Kickroom> body) {
        refused(call, IllegalStateException.class, way, body);
    }

    /** The call must throw just this exception; then its object must answer all that a twin without it answers. */
    private static void refused(String call, Class<?> want, Supplier<Kickroom> way, Consumer<Kickroom> body) {
        Kickroom room = way.get();
        thrown(call, want, () -> body.accept(room));
        due(call + ", refused, then", Probe.played(room), Probe.played(way.get()));
    }

    static void thrown(String call, Class<?> want, Runnable body) {
        Class<?> got = null;
        try {
            body.run();
        } catch (RuntimeException e) {
            got = e.getClass();
        }
        answers++;
        if (got != want) {
            wrong(call + " threw " + got + ", due is " + want);
        }
    }

    static void finish() {
        String told = wrong == 0 ? "all " + answers + " answers are as due" : wrong + " answers are not as due";
        System.out.println(told);
        if (wrong != 0) {
            System.exit(1);
        }
    }
}
