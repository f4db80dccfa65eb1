import java.util.concurrent.Callable;
import java.util.function.IntFunction;

/** Counts the answers that are not as due, and ends a test with exit code 1 if there were any. */
final class Due {
    private static int wrong = 0;
    private static int looked = 0;
    private static String sentence = "";

    private Due() {
    }

    /** Runs each of these; one that fails by itself does not keep the others from being run. */
    static void each(Runnable... tests) {
        for (Runnable test : tests) {
            sentence = "";
            try {
                test.run();
            } catch (RuntimeException e) {
                is("a call", "throws." + e.getClass().getSimpleName(), "no exception");
            }
        }
        sentence = "";
    }

    /** The words of the document that the answers looked at next rest on. */
    static void sentence(String where, String words) {
        sentence = where + " \"" + words + "\": ";
    }

    static void is(String what, Object got, Object due) {
        looked++;
        if (!got.equals(due)) {
            wrong++;
            System.out.println(sentence + what + " answered " + got + ", due is " + due);
        }
    }

    static void refuses(String what, Callable<?> call) {
        is(what, answer(call), "throws.IllegalArgumentException");
    }

    static void refusesEach(int[] arguments, IntFunction<?> call) {
        for (int argument : arguments) {
            refuses("for " + argument, () -> call.apply(argument));
        }
    }

    static void takesEach(int[] arguments, IntFunction<?> call) {
        for (int argument : arguments) {
            String answer = answer(() -> call.apply(argument));
            is("for " + argument + ", " + answer, answer.startsWith("throws."), false);
        }
    }

    /** What a call answers, as text: its value, or the name of what it throws. */
    static String answer(Callable<?> call) {
        try {
            return String.valueOf(call.call());
        } catch (Exception e) {
            return "throws." + e.getClass().getSimpleName();
        }
    }

    static void end() {
        System.out.println(looked + " answers looked at, " + wrong + " not as due");
        System.exit(wrong == 0 && looked > 0 ? 0 : 1);
    }
}
