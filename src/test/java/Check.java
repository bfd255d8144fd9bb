/** Counts the answers that are not due, and ends a test with exit code 1 if there was one. */
final class Check {
    interface Call {
        void run();
    }

    private static int wrong = 0;
    private static int checked = 0;

    private Check() {
    }

    static void due(String what, long want, long got) {
        checked++;
        if (got != want) {
            wrong++;
            System.out.println(what + " answered " + got + ", due is " + want);
        }
    }

    static void due(String what, boolean want, boolean got) {
        due(what, want ? 1 : 0, got ? 1 : 0);
    }

    static void dueText(String what, String want, String got) {
        checked++;
        if (!want.equals(got)) {
            wrong++;
            System.out.println(what + " answered " + got + ", due is " + want);
        }
    }

    /** The exception must be of that very class, and thrown in Coverpool, not by the machine or the library. */
    static void dueThrow(String what, Class<? extends RuntimeException> want, Call call) {
        dueText(what, want.getSimpleName(), thrownBy(call));
    }

    static String thrownBy(Call call) {
        try {
            call.run();
        } catch (RuntimeException e) {
            String thrower = e.getStackTrace()[0].getClassName();
            return e.getClass().getSimpleName() + (thrower.equals("Coverpool") ? "" : " by " + thrower);
        }
        return "nothing thrown";
    }

    /** A call that throws must leave all that can be asked as it was. */
    static void dueThrowAndNoChange(Coverpool pool, String what, Class<? extends RuntimeException> want, Call call) {
        String before = allAnswers(pool);
        dueThrow(what, want, call);
        dueText(what + " and all answers after it", before, allAnswers(pool));
    }

    static String allAnswers(Coverpool pool) {
        StringBuilder text = new StringBuilder();
        for (int loan = 0; isLoan(pool, loan); loan++) {
            text.append("loan ").append(pool.stateOf(loan)).append(' ').append(pool.counts(loan)).append("; ");
        }
        for (int bond = 0; isBond(pool, bond); bond++) {
            text.append("bond ").append(pool.bondState(bond)).append(' ').append(pool.dueOf(bond)).append("; ");
        }
        text.append("cash ").append(pool.cash()).append(", debt ").append(pool.debt());
        text.append(", substitutes ").append(pool.substitutes());
        for (int test = Coverpool.FACE; test <= Coverpool.MONEY; test++) {
            text.append(", test ").append(pool.holds(test)).append(' ').append(pool.lacking(test));
        }
        text.append(", least ").append(pool.leastToAdd()).append(' ').append(pool.leastToAddByAll());
        return text.toString();
    }

    private static boolean isLoan(Coverpool pool, int loan) {
        return thrownBy(() -> pool.stateOf(loan)).equals("nothing thrown");
    }

    private static boolean isBond(Coverpool pool, int bond) {
        return thrownBy(() -> pool.bondState(bond)).equals("nothing thrown");
    }

    static void end() {
        System.out.println(checked + " checked, " + wrong + " wrong");
        if (wrong != 0 || checked == 0) {
            System.exit(1);
        }
    }
}
