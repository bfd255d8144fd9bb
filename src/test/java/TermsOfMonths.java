/** The terms: how a month passes. */
final class TermsOfMonths {
    private TermsOfMonths() {
    }

    static void tell(Told told) {
        told.section("Terms");
        told.says("A month passes: it becomes 1 more.", TermsOfMonths::aMonthIsOneMore);
        told.says("Then, by their numbers, each loan in the pool that is due by now", TermsOfMonths::loansDueByNow);
        told.says("and has no arrears is paid:", TermsOfMonths::loansInArrears);
        told.says("its amount comes to the cash.", TermsOfMonths::theAmountComesToTheCash);
        told.says("Then, by their numbers,", TermsOfMonths::bondsComeAfterLoansByTheirNumbers);
        told.says("each open bond that is due by now:", TermsOfMonths::openBondsDueByNow);
        told.says("if the cash is at least its amount, it is paid out of that;", TermsOfMonths::paidFromItsAmountOn);
        told.says("otherwise, if it was not put off, it is put off:", TermsOfMonths::putOffOnce);
        told.says("it is due 12 months from now on;", TermsOfMonths::dueTwelveMonthsFromNow);
        told.says("otherwise it is lost.", TermsOfMonths::lostTheSecondTime);
    }

    private static void aMonthIsOneMore() {
        Coverpool pool = new Coverpool();
        for (int month = 1; month <= 30; month++) {
            Check.due("pass(1)", month, pool.pass(1));
        }
        Coverpool atOnce = new Coverpool();
        Coverpool oneByOne = new Coverpool();
        for (Coverpool each : new Coverpool[] {atOnce, oneByOne}) {
            each.addBond(50, 3);
            each.addBond(50, 3);
            each.takeCash(60);
            Pools.addIn(each, 10, 9);
        }
        atOnce.pass(15);
        for (int month = 1; month <= 15; month++) {
            oneByOne.pass(1);
        }
        Check.due("bond 0 is put off and paid", Coverpool.PAID, atOnce.bondState(0));
        Check.due("bond 1 is put off and lost", Coverpool.LOST, atOnce.bondState(1));
        Check.dueText("15 months at once", Answers.nowAndLater(oneByOne), Answers.nowAndLater(atOnce));
    }

    private static void loansDueByNow() {
        Coverpool pool = new Coverpool();
        Pools.addIn(pool, 100, 2);
        Pools.addIn(pool, 30, 3);
        Pools.addOut(pool, 7, 2);
        pool.pass(1);
        Check.due("a month ahead of it", Coverpool.IN, pool.stateOf(0));
        pool.pass(1);
        Check.due("in its month", Coverpool.PAID, pool.stateOf(0));
        Check.due("due a month later", Coverpool.IN, pool.stateOf(1));
        Check.due("not in the pool", Coverpool.OUT, pool.stateOf(2));
        pool.enter(2);
        Check.due("entered after its month", Coverpool.IN, pool.stateOf(2));
        pool.pass(1);
        Check.due("the next month", Coverpool.PAID, pool.stateOf(1));
        Check.due("due two months ago", Coverpool.PAID, pool.stateOf(2));
        Check.due("all amounts", 137, pool.cash());
    }

    private static void loansInArrears() {
        Coverpool pool = new Coverpool();
        Pools.addIn(pool, 100, 2);
        pool.setArrears(0, 1);
        pool.pass(2);
        Check.due("1 month in arrears", Coverpool.IN, pool.stateOf(0));
        Check.due("no cash", 0, pool.cash());
        pool.setArrears(0, 60);
        pool.pass(1);
        Check.due("60 months in arrears", Coverpool.IN, pool.stateOf(0));
        pool.setArrears(0, 0);
        Check.due("none in arrears, but no month has passed", Coverpool.IN, pool.stateOf(0));
        pool.pass(1);
        Check.due("none in arrears", Coverpool.PAID, pool.stateOf(0));
        Check.due("cash", 100, pool.cash());
    }

    private static void theAmountComesToTheCash() {
        Coverpool pool = new Coverpool();
        pool.addLoan(100, 50, 5, 2);
        pool.enter(0);
        pool.addBond(10, 9);
        pool.pass(2);
        Check.due("the amount, not what it counts for", 110, pool.cash());
        pool.pass(1);
        Check.due("once", 110, pool.cash());
    }

    private static void bondsComeAfterLoansByTheirNumbers() {
        Coverpool late = Pools.withDebt(100, 3);
        Pools.addIn(late, 100, 3);
        late.pass(3);
        Check.due("paid out of the loan of that month", Coverpool.PAID, late.bondState(0));
        Check.due("cash", 0, late.cash());
        Coverpool pool = new Coverpool();
        pool.addBond(60, 2);
        pool.addBond(70, 2);
        pool.addBond(30, 2);
        pool.takeCash(61);
        pool.pass(2);
        // 99: 60 is paid, 70 is more than the 39 left, 30 is paid
        Check.due("the first takes 60", Coverpool.PAID, pool.bondState(0));
        Check.due("the second is put off", 14, pool.dueOf(1));
        Check.due("the third takes 30", Coverpool.PAID, pool.bondState(2));
        Check.due("cash", 9, pool.cash());
    }

    private static void openBondsDueByNow() {
        Coverpool pool = new Coverpool();
        pool.addBond(50, 2);
        pool.pass(1);
        Check.due("a month ahead of it", Coverpool.OPEN, pool.bondState(0));
        pool.pass(1);
        Check.due("in its month", Coverpool.PAID, pool.bondState(0));
        pool.addBond(70, 20);
        pool.pass(5);
        Check.due("paid once alone", 70, pool.cash());
        Check.due("it stays PAID", Coverpool.PAID, pool.bondState(0));
        Coverpool lost = Pools.withDebt(60, 1);
        lost.pass(13);
        lost.addBond(60, 40);
        lost.pass(24);
        Check.due("a lost bond is never paid", Coverpool.LOST, lost.bondState(0));
        Check.due("nor out of new cash", 60, lost.cash());
    }

    private static void paidFromItsAmountOn() {
        Coverpool less = new Coverpool();
        less.addBond(50, 1);
        less.takeCash(1);
        less.pass(1);
        Check.due("49 for 50", Coverpool.OPEN, less.bondState(0));
        Check.due("49 stays", 49, less.cash());
        Coverpool same = new Coverpool();
        same.addBond(50, 1);
        same.pass(1);
        Check.due("50 for 50", Coverpool.PAID, same.bondState(0));
        Check.due("0 is left", 0, same.cash());
        Coverpool more = new Coverpool();
        more.addBond(50, 1);
        more.addBond(1, 9);
        more.pass(1);
        Check.due("51 for 50", Coverpool.PAID, more.bondState(0));
        Check.due("1 is left", 1, more.cash());
    }

    private static void putOffOnce() {
        Coverpool pool = Pools.withDebt(60, 2);
        pool.pass(2);
        Check.due("put off, and OPEN", Coverpool.OPEN, pool.bondState(0));
        pool.addBond(60, 50);
        pool.pass(11);
        Check.due("not paid ahead of its new month", Coverpool.OPEN, pool.bondState(0));
        Check.due("its new month stays", 14, pool.dueOf(0));
        pool.pass(1);
        Check.due("paid in its new month", Coverpool.PAID, pool.bondState(0));
        Check.due("cash", 0, pool.cash());
        Coverpool two = new Coverpool();
        two.addBond(60, 1);
        two.addBond(70, 2);
        two.takeCash(130);
        two.pass(2);
        Check.due("the first", 13, two.dueOf(0));
        Check.due("the second is put off by itself", 14, two.dueOf(1));
        Check.due("and OPEN", Coverpool.OPEN, two.bondState(1));
    }

    private static void dueTwelveMonthsFromNow() {
        Coverpool pool = Pools.withDebt(60, 7);
        pool.pass(6);
        Check.due("not yet", 7, pool.dueOf(0));
        pool.pass(1);
        Check.due("12 months from month 7", 19, pool.dueOf(0));
        Coverpool last = Pools.withDebt(50, 600);
        for (int call = 0; call < 25; call++) {
            last.pass(24);
        }
        Check.due("12 months from month 600", 612, last.dueOf(0));
        Check.due("OPEN", Coverpool.OPEN, last.bondState(0));
        last.pass(11);
        Check.due("OPEN in month 611", Coverpool.OPEN, last.bondState(0));
        last.pass(1);
        Check.due("LOST in month 612", Coverpool.LOST, last.bondState(0));
    }

    private static void lostTheSecondTime() {
        Coverpool pool = new Coverpool();
        pool.addBond(60, 2);
        pool.takeCash(1);
        pool.pass(13);
        Check.due("OPEN", Coverpool.OPEN, pool.bondState(0));
        Check.due("it is of the debt", 60, pool.debt());
        pool.pass(1);
        Check.due("LOST", Coverpool.LOST, pool.bondState(0));
        Check.due("it is of the debt no more", 0, pool.debt());
        Check.due("its due month stays", 14, pool.dueOf(0));
        Check.due("the cash stays", 59, pool.cash());
    }
}
