import java.util.Objects;
import java.util.concurrent.Callable;

/** Counts what was compared and prints what was wrong. */
final class Check {
    private static int right;
    private static int wrong;

    private Check() {
    }

    static void same(String what, Object got, Object due) {
        if (Objects.equals(got, due)) {
            right++;
        } else {
            wrong++;
            if (wrong <= 50) {
                System.out.println(what + " answered " + got + ", due is " + due);
            }
        }
    }

    /** The answer as text; of an exception throws. and its name. */
    static String answer(Callable<?> call) {
        try {
            return String.valueOf(call.call());
        } catch (Exception e) {
            return "throws." + e.getClass().getSimpleName();
        }
    }

    static void end(String test) {
        System.out.println(test + ": " + right + " as due, " + wrong + " not");
        if (wrong > 0 || right == 0) {
            System.exit(1);
        }
    }
}
