/** All that an object answers, as a text. It takes some 300 calls, so that it fits into the 512 of an object. */
final class Answers {
    private Answers() {
    }

    static String now(Coverpool pool) {
        StringBuilder text = new StringBuilder();
        for (int loan = 0; isLoan(pool, loan); loan++) {
            text.append("loan ").append(pool.stateOf(loan)).append(' ').append(pool.counts(loan)).append("; ");
        }
        for (int bond = 0; isBond(pool, bond); bond++) {
            text.append("bond ").append(pool.bondState(bond)).append(' ').append(pool.dueOf(bond)).append("; ");
        }
        text.append("cash ").append(pool.cash()).append(", debt ").append(pool.debt());
        text.append(", substitutes ").append(pool.substitutes());
        for (int test = Coverpool.FACE; test <= Coverpool.MONEY; test++) {
            text.append(", test ").append(pool.holds(test)).append(' ').append(pool.lacking(test));
        }
        text.append(", least ").append(pool.leastToAdd()).append(' ').append(pool.leastToAddByAll());
        return text.append(". ").toString();
    }

    /** Brings to light what now() does not show: the month, arrears, worths, and which bonds were put off. */
    static String nowAndLater(Coverpool pool) {
        StringBuilder text = new StringBuilder(now(pool));
        text.append("month ").append(pool.pass(1)).append(": ").append(now(pool));
        for (int loan = 0; isLoan(pool, loan); loan++) {
            text.append("worth ").append(pool.setWorth(loan, 100)).append("; ");
            if (pool.stateOf(loan) != Coverpool.PAID) {
                text.append("arrears ").append(pool.setArrears(loan, 0)).append("; ");
            }
        }
        for (int months = 12; months <= 24; months += 12) {
            text.append("month ").append(pool.pass(months)).append(": ").append(now(pool));
        }
        return text.toString();
    }

    private static boolean isLoan(Coverpool pool, int loan) {
        return Check.thrownBy(() -> pool.stateOf(loan)).equals("nothing thrown");
    }

    private static boolean isBond(Coverpool pool, int bond) {
        return Check.thrownBy(() -> pool.bondState(bond)).equals("nothing thrown");
    }
}
