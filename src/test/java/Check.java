import java.util.concurrent.Callable;

/** Holds calls' answers against those that are due; an exception is an answer too, by its exact class. */
final class Check {
    private static int calls = 0;
    private static int wrong = 0;
    private static String sentence = "";

    /** A call that answers nothing. */
    interface Step {
        void run();
    }

    private Check() {
    }

    /** The sentence of the document that the next answers are held against. */
    static void about(String words) {
        sentence = words;
    }

    static String answer(Callable<Object> call) {
        try {
            return String.valueOf(call.call());
        } catch (Exception e) {
            return "throws." + e.getClass().getSimpleName();
        }
    }

    static String answer(Step step) {
        return answer(() -> {
            step.run();
            return "done";
        });
    }

    static void due(String name, Object want, Callable<Object> call) {
        same(name, String.valueOf(want), answer(call));
    }

    static void done(String name, Step step) {
        same(name, "done", answer(step));
    }

    static void bad(String name, Step step) {
        same(name, "throws.IllegalArgumentException", answer(step));
    }

    static void none(String name, Step step) {
        same(name, "throws.IndexOutOfBoundsException", answer(step));
    }

    static void stage(String name, Step step) {
        same(name, "throws.IllegalStateException", answer(step));
    }

    static void room(String name, Step step) {
        same(name, "throws.UnsupportedOperationException", answer(step));
    }

    static void same(String name, String want, String got) {
        calls++;
        if (!want.equals(got)) {
            wrong++;
            if (wrong <= 40) {
                System.out.println((sentence.isEmpty() ? "" : "[" + sentence + "] ")
                    + name + " answered " + got + ", due is " + want);
            }
        }
    }

    static int wrongSoFar() {
        return wrong;
    }

    static void end() {
        System.out.println(calls + " answers looked at, " + wrong + " of them wrong");
        if (wrong != 0 || calls == 0) {
            System.exit(1);
        }
    }
}
