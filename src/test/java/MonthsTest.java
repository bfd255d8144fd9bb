/** Promise 18: how months pass. */
public final class MonthsTest {
    private static final Class<IllegalArgumentException> ARGUMENT = IllegalArgumentException.class;

    public static void main(String[] args) {
        passAnswersTheMonth();
        passRefuses();
        dueLoansBringTheirAmount();
        loansInArrearsOrOutAreNotPaid();
        loansArePaidAheadOfBonds();
        bondsArePaidByTheirNumbers();
        aBondIsPutOffOnceAndThenLost();
        aBondPutOffIsPaidWhenThereIsMoney();
        manyMonthsAreOneAfterTheOther();
        aBondPutOffMayBeDueAfter600();
        Check.end();
    }

    private static void passAnswersTheMonth() {
        Coverpool pool = new Coverpool();
        Check.due("pass(1)", 1, pool.pass(1));
        Check.due("pass(24)", 25, pool.pass(24));
        Check.due("pass(5)", 30, pool.pass(5));
        for (int call = 1; call <= 500; call++) {
            Check.due("pass(24) far on", 30 + 24 * call, pool.pass(24));
        }
    }

    private static void passRefuses() {
        Coverpool pool = new Coverpool();
        pool.addBond(10, 1);
        for (int months : new int[] {Integer.MIN_VALUE, -1, 0, 25, Integer.MAX_VALUE}) {
            Check.dueThrowAndNoChange(pool, "pass(" + months + ")", ARGUMENT, () -> pool.pass(months));
        }
        Check.due("pass(1) after refusals", 1, pool.pass(1));
    }

    private static void dueLoansBringTheirAmount() {
        Coverpool pool = new Coverpool();
        pool.addLoan(100, 50, 5, 2);
        pool.addLoan(30, 50, 1, 3);
        pool.enter(0);
        pool.enter(1);
        pool.pass(1);
        Check.due("not yet", 0, pool.cash());
        pool.pass(1);
        Check.due("the amount, not what it counts for", 100, pool.cash());
        Check.due("it is PAID", Coverpool.PAID, pool.stateOf(0));
        Check.due("the other is IN", Coverpool.IN, pool.stateOf(1));
        pool.pass(1);
        Check.due("both", 130, pool.cash());
        pool.pass(1);
        Check.due("none is paid twice", 130, pool.cash());
    }

    private static void loansInArrearsOrOutAreNotPaid() {
        Coverpool pool = new Coverpool();
        pool.addLoan(100, 50, 1, 2);
        pool.addLoan(30, 50, 1, 2);
        pool.enter(0);
        pool.setArrears(0, 1);
        pool.pass(2);
        Check.due("no cash", 0, pool.cash());
        Check.due("IN arrears", Coverpool.IN, pool.stateOf(0));
        Check.due("OUT", Coverpool.OUT, pool.stateOf(1));
        pool.setArrears(0, 0);
        Check.due("a past due month alone pays nothing", 0, pool.cash());
        pool.enter(1);
        pool.pass(1);
        Check.due("both are paid a month later", 130, pool.cash());
    }

    private static void loansArePaidAheadOfBonds() {
        Coverpool pool = new Coverpool();
        pool.addBond(100, 3);
        pool.takeCash(100);
        pool.addLoan(100, 200, 1, 3);
        pool.enter(0);
        pool.pass(3);
        Check.due("the bond is paid out of the loan", Coverpool.PAID, pool.bondState(0));
        Check.due("cash()", 0, pool.cash());
    }

    private static void bondsArePaidByTheirNumbers() {
        Coverpool pool = new Coverpool();
        pool.addBond(60, 2);
        pool.addBond(70, 1);
        pool.addBond(30, 2);
        pool.takeCash(60);
        pool.pass(1);
        Check.due("70 of 100", Coverpool.PAID, pool.bondState(1));
        pool.pass(1);
        Check.due("60 of 30 is put off", 14, pool.dueOf(0));
        Check.due("30 of 30 is paid", Coverpool.PAID, pool.bondState(2));
        Check.due("cash()", 0, pool.cash());
    }

    private static void aBondIsPutOffOnceAndThenLost() {
        Coverpool pool = new Coverpool();
        pool.addBond(60, 2);
        pool.takeCash(1);
        pool.pass(2);
        Check.due("put off", 14, pool.dueOf(0));
        pool.pass(11);
        Check.due("OPEN", Coverpool.OPEN, pool.bondState(0));
        pool.pass(1);
        Check.due("LOST", Coverpool.LOST, pool.bondState(0));
        Check.due("the cash stays", 59, pool.cash());
        pool.addBond(50, 40);
        pool.pass(24);
        Check.due("a lost bond is never paid", Coverpool.LOST, pool.bondState(0));
        Check.due("nor out of new cash", 109, pool.cash());
    }

    private static void aBondPutOffIsPaidWhenThereIsMoney() {
        Coverpool pool = new Coverpool();
        pool.addBond(60, 2);
        pool.takeCash(1);
        pool.pass(2);
        pool.addBond(1, 50);
        pool.pass(11);
        Check.due("not ahead of its new month", Coverpool.OPEN, pool.bondState(0));
        pool.pass(1);
        Check.due("PAID", Coverpool.PAID, pool.bondState(0));
        Check.due("cash()", 0, pool.cash());
    }

    private static void manyMonthsAreOneAfterTheOther() {
        Coverpool atOnce = new Coverpool();
        Coverpool oneByOne = new Coverpool();
        for (Coverpool pool : new Coverpool[] {atOnce, oneByOne}) {
            pool.addBond(50, 3);
            pool.addBond(50, 3);
            pool.takeCash(60);
            pool.addLoan(10, 100, 1, 9);
            pool.enter(0);
        }
        atOnce.pass(15);
        for (int month = 1; month <= 15; month++) {
            oneByOne.pass(1);
        }
        Check.due("bond 0 is put off and paid", Coverpool.PAID, atOnce.bondState(0));
        Check.due("bond 1 is put off and lost", Coverpool.LOST, atOnce.bondState(1));
        Check.dueText("all answers", Check.allAnswers(oneByOne), Check.allAnswers(atOnce));
    }

    private static void aBondPutOffMayBeDueAfter600() {
        Coverpool pool = new Coverpool();
        pool.addBond(50, 600);
        pool.takeCash(50);
        for (int call = 0; call < 25; call++) {
            pool.pass(24);
        }
        Check.due("dueOf(0)", 612, pool.dueOf(0));
        Check.due("bondState(0)", Coverpool.OPEN, pool.bondState(0));
    }
}
