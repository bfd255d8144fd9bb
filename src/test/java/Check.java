import java.util.function.Consumer;
import java.util.function.Supplier;

/** Counts the answers that are not due, and ends a test with exit code 1 if there was one. */
final class Check {
    static final int LOW = Integer.MIN_VALUE, HIGH = Integer.MAX_VALUE;

    private static String place = "";
    private static int wrong = 0;
    private static int checked = 0;

    private Check() {
    }

    /** Where the checks from here on stand: it is told with each answer that is not due. */
    static void at(String newPlace) {
        place = newPlace + ": ";
    }

    static int checked() {
        return checked;
    }

    static void due(String what, long want, long got) {
        dueText(what, Long.toString(want), Long.toString(got));
    }

    static void due(String what, boolean want, boolean got) {
        dueText(what, Boolean.toString(want), Boolean.toString(got));
    }

    static void dueText(String what, String want, String got) {
        checked++;
        if (!want.equals(got)) {
            wrong++;
            System.out.println(place + what + " answered " + got + ", due is " + want);
        }
    }

    /** The exception must be of that very class, and thrown in Coverpool, not by the machine or the library. */
    static void dueThrow(String what, Class<? extends RuntimeException> want, Runnable call) {
        dueText(what, want.getSimpleName(), thrownBy(call));
    }

    static String thrownBy(Runnable call) {
        try {
            call.run();
        } catch (RuntimeException e) {
            String thrower = e.getStackTrace()[0].getClassName();
            return e.getClass().getSimpleName() + (thrower.equals("Coverpool") ? "" : " by " + thrower);
        }
        return "nothing thrown";
    }

    /** The call throws, and the object answers all that can be asked later like one that never had the call. */
    static void dueRefused(String what, Class<? extends RuntimeException> want, Supplier<Coverpool> maker,
            Consumer<Coverpool> call) {
        Coverpool pool = maker.get();
        dueThrow(what, want, () -> call.accept(pool));
        dueText(what + " and all answers after it", Answers.nowAndLater(maker.get()), Answers.nowAndLater(pool));
    }

    static void end() {
        System.out.println(checked + " checked, " + wrong + " wrong");
        if (wrong != 0 || checked == 0) {
            System.exit(1);
        }
    }
}
