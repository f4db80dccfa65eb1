import java.util.concurrent.Callable;

/** Counts the answers that are not as due, and ends a test with exit code 1 if there were any. */
final class Due {
    private static int wrong = 0;
    private static int looked = 0;

    private Due() {
    }

    static void is(String what, Object got, Object due) {
        looked++;
        if (!got.equals(due)) {
            wrong++;
            System.out.println(what + " answered " + got + ", due is " + due);
        }
    }

    static void refuses(String what, Callable<?> call) {
        is(what, answer(call), "throws.IllegalArgumentException");
    }

    /** What a call answers, as text: its value, or the name of what it throws. */
    static String answer(Callable<?> call) {
        try {
            return String.valueOf(call.call());
        } catch (Exception e) {
            return "throws." + e.getClass().getSimpleName();
        }
    }

    static void end() {
        System.out.println(looked + " answers looked at, " + wrong + " not as due");
        System.exit(wrong == 0 && looked > 0 ? 0 : 1);
    }
}
