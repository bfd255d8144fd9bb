/** The terms: months, cash, loans, bonds, the debt and the substitutes. */
final class TermsOfThings {
    private static final Class<IllegalArgumentException> ARGUMENT = IllegalArgumentException.class;
    private static final Class<IllegalStateException> STATE = IllegalStateException.class;

    private TermsOfThings() {
    }

    static void tell(Told told) {
        told.section("Terms");
        told.says("The calls add loans and bonds, let them enter and leave, let months pass, and ask for tests and least"
            + " additions.", TermsOfThings::oneOfEach);
        told.says("Months are numbered from 0; it is month 0 at first.", TermsOfThings::month0AtFirst);
        told.says("There is an amount of cash, 0 at first.", TermsOfThings::noCashAtFirst);
        told.says("Loans are numbered from 0, at most 12.", TermsOfThings::twelveLoans);
        told.says("A loan has an amount, a worth (of the house behind it), a rank, 1 to 5, a due month, and some months in"
            + " arrears, 0 at first;", TermsOfThings::whatALoanHas);
        told.says("it is out of the pool at first, or in it, or paid.", TermsOfThings::statesOfALoan);
        told.says("A loan in the pool counts for the lesser one of its amount and worth * 80 / 100, rounded down;",
            TermsOfThings::theLesserOneRoundedDown);
        told.says("for 0 if it is 3 months or more in arrears,", TermsOfThings::threeMonthsInArrears);
        told.says("or its rank is above the greatest one that counts, 3 at first.", TermsOfThings::rankAboveTheGreatest);
        told.says("Bonds are numbered from 0, at most 5.", TermsOfThings::fiveBonds);
        told.says("A bond has an amount and a due month; it is open, paid or lost; it may be put off.",
            TermsOfThings::whatABondHas);
        told.says("The debt is the sum of the amounts of all open bonds.", TermsOfThings::debtOfOpenBonds);
        told.says("The substitutes are the lesser one of the cash and 15 percent of the debt, rounded down.",
            TermsOfThings::theLesserOneOfCashAndShare);
    }

    private static void oneOfEach() {
        Coverpool pool = new Coverpool();
        Check.due("addLoan", 0, pool.addLoan(200, 300, 1, 24));
        Check.due("addBond", 0, pool.addBond(100, 10));
        Check.due("enter", 200, pool.enter(0));
        for (int test = Coverpool.FACE; test <= Coverpool.MONEY; test++) {
            Check.due("holds(" + test + ")", true, pool.holds(test));
        }
        Check.due("takeCash", 0, pool.takeCash(100));
        Check.due("leave", false, pool.leave(0));
        Check.due("lacking(WORTH)", 0, pool.lacking(Coverpool.WORTH));
        Check.due("leastToAdd", 0, pool.leastToAdd());
        Check.due("pass", 6, pool.pass(6));
    }

    private static void month0AtFirst() {
        Check.due("pass(1) leads from month 0", 1, new Coverpool().pass(1));
        Coverpool pool = new Coverpool();
        Check.dueThrow("a loan due in month 0", ARGUMENT, () -> pool.addLoan(5, 5, 1, 0));
        Check.due("a loan due in month 1", 0, pool.addLoan(5, 5, 1, 1));
        Check.dueThrow("a bond due in month 0", ARGUMENT, () -> pool.addBond(5, 0));
        Check.due("a bond due in month 1", 0, pool.addBond(5, 1));
        Coverpool other = new Coverpool();
        other.pass(24);
        Check.due("each object has its own months", 1, pool.pass(1));
    }

    private static void noCashAtFirst() {
        Coverpool pool = new Coverpool();
        Check.due("cash()", 0, pool.cash());
        Check.dueThrow("takeCash(1)", STATE, () -> pool.takeCash(1));
        Coverpool other = new Coverpool();
        other.addBond(100, 5);
        Check.due("each object has its own cash", 0, pool.cash());
    }

    private static void twelveLoans() {
        Coverpool pool = new Coverpool();
        for (int loan = 0; loan < 12; loan++) {
            Check.due("addLoan", loan, Pools.addOut(pool, 100 + loan, 1));
        }
        Check.dueThrow("the 13th", STATE, () -> Pools.addOut(pool, 100, 5));
        for (int loan = 0; loan < 12; loan++) {
            Check.due("counts(" + loan + ")", 100 + loan, pool.counts(loan));
        }
        pool.enter(0);
        pool.pass(1);
        Check.due("the first is paid", Coverpool.PAID, pool.stateOf(0));
        Check.dueThrow("the 13th beside a paid one", STATE, () -> Pools.addOut(pool, 100, 5));
    }

    private static void whatALoanHas() {
        Coverpool pool = new Coverpool();
        for (int rank = 1; rank <= 5; rank++) {
            Check.due("a loan of rank " + rank, rank - 1, pool.addLoan(100 * rank, 50 + rank, rank, 2 + rank));
        }
        for (int loan = 0; loan < 5; loan++) {
            Check.due("arrears at first", 0, pool.setArrears(loan, 0));
            Check.due("the worth", 51 + loan, pool.setWorth(loan, 51 + loan));
            pool.enter(loan);
        }
        pool.pass(2);
        for (int loan = 0; loan < 5; loan++) {
            Check.due("IN ahead of the due month", Coverpool.IN, pool.stateOf(loan));
            int before = pool.cash();
            pool.pass(1);
            Check.due("PAID in the due month", Coverpool.PAID, pool.stateOf(loan));
            Check.due("the amount", 100 * (loan + 1), pool.cash() - before);
        }
    }

    private static void statesOfALoan() {
        Coverpool pool = new Coverpool();
        Pools.addOut(pool, 100, 1);
        Check.due("at first", Coverpool.OUT, pool.stateOf(0));
        pool.enter(0);
        Check.due("entered", Coverpool.IN, pool.stateOf(0));
        pool.leave(0);
        Check.due("left", Coverpool.OUT, pool.stateOf(0));
        pool.enter(0);
        pool.pass(1);
        Check.due("paid", Coverpool.PAID, pool.stateOf(0));
    }

    private static void theLesserOneRoundedDown() {
        Coverpool pool = new Coverpool();
        pool.addLoan(80, 99, 1, 9);
        pool.enter(0);
        Check.due("79.2 against 80", 79, pool.counts(0));
        pool.setWorth(0, 100);
        Check.due("80 against 80", 80, pool.counts(0));
        pool.setWorth(0, 102);
        Check.due("81.6 against 80", 80, pool.counts(0));
        pool.setWorth(0, 4);
        Check.due("3.2", 3, pool.counts(0));
        pool.setWorth(0, 1);
        Check.due("0.8", 0, pool.counts(0));
        pool.setWorth(0, 0);
        Check.due("0", 0, pool.counts(0));
        Coverpool great = new Coverpool();
        great.addLoan(10000, 12499, 1, 600);
        Check.due("9999.2 against 10000", 9999, great.counts(0));
        great.setWorth(0, 20000);
        Check.due("16000 against 10000", 10000, great.counts(0));
    }

    private static void threeMonthsInArrears() {
        Coverpool pool = new Coverpool();
        Pools.addIn(pool, 10, 5);
        for (int arrears : new int[] {0, 1, 2}) {
            pool.setArrears(0, arrears);
            Check.due(arrears + " months in arrears", 10, pool.counts(0));
        }
        for (int arrears : new int[] {3, 4, 60}) {
            pool.setArrears(0, arrears);
            Check.due(arrears + " months in arrears", 0, pool.counts(0));
        }
        pool.setArrears(0, 2);
        Check.due("2 months in arrears again", 10, pool.counts(0));
    }

    private static void rankAboveTheGreatest() {
        Coverpool pool = new Coverpool();
        for (int rank = 1; rank <= 5; rank++) {
            pool.addLoan(10 * rank, 200, rank, 5);
        }
        dueCountsUpToRank("at first", pool, 3);
        for (int greatest = 1; greatest <= 5; greatest++) {
            pool.setRules(greatest, 5, 6);
            dueCountsUpToRank("up to rank " + greatest, pool, greatest);
        }
    }

    private static void dueCountsUpToRank(String what, Coverpool pool, int greatest) {
        for (int rank = 1; rank <= 5; rank++) {
            Check.due("rank " + rank + " " + what, rank <= greatest ? 10 * rank : 0, pool.counts(rank - 1));
        }
    }

    private static void fiveBonds() {
        Coverpool pool = new Coverpool();
        for (int bond = 0; bond < 5; bond++) {
            Check.due("addBond", bond, pool.addBond(10 + bond, bond == 0 ? 1 : 100 + bond));
        }
        Check.dueThrow("the 6th", STATE, () -> pool.addBond(1, 5));
        for (int bond = 0; bond < 5; bond++) {
            Check.due("dueOf(" + bond + ")", bond == 0 ? 1 : 100 + bond, pool.dueOf(bond));
        }
        pool.pass(1);
        Check.due("the first is paid", Coverpool.PAID, pool.bondState(0));
        Check.dueThrow("the 6th beside a paid one", STATE, () -> pool.addBond(1, 5));
        Coverpool lost = Pools.withFiveBonds();
        lost.takeCash(lost.cash());
        lost.pass(24);
        Check.due("the first is lost", Coverpool.LOST, lost.bondState(0));
        Check.dueThrow("the 6th beside lost ones", STATE, () -> lost.addBond(1, 50));
    }

    private static void whatABondHas() {
        Coverpool pool = new Coverpool();
        pool.addBond(100, 2);
        pool.addBond(90, 3);
        pool.takeCash(89);
        Check.due("OPEN", Coverpool.OPEN, pool.bondState(0));
        Check.due("the due month", 2, pool.dueOf(0));
        Check.due("the amounts", 190, pool.debt());
        pool.pass(2);
        Check.due("PAID", Coverpool.PAID, pool.bondState(0));
        pool.pass(1);
        Check.due("put off, and OPEN", Coverpool.OPEN, pool.bondState(1));
        Check.due("the due month of one put off", 15, pool.dueOf(1));
        pool.pass(12);
        Check.due("LOST", Coverpool.LOST, pool.bondState(1));
    }

    private static void debtOfOpenBonds() {
        Coverpool pool = new Coverpool();
        Check.due("no bonds", 0, pool.debt());
        pool.addBond(100, 1);
        pool.addBond(30, 2);
        pool.addBond(7, 3);
        Check.due("all are open", 137, pool.debt());
        pool.pass(1);
        Check.due("one is paid", 37, pool.debt());
        pool.takeCash(37);
        Check.due("cash is no matter", 37, pool.debt());
        pool.pass(2);
        Check.due("two are put off", 37, pool.debt());
        pool.pass(11);
        Check.due("one is lost", 7, pool.debt());
        pool.pass(1);
        Check.due("both are lost", 0, pool.debt());
    }

    private static void theLesserOneOfCashAndShare() {
        Coverpool pool = new Coverpool();
        pool.addBond(199, 50);
        Check.due("29.85 against 199", 29, pool.substitutes());
        pool.takeCash(169);
        Check.due("29.85 against 30", 29, pool.substitutes());
        pool.takeCash(1);
        Check.due("29.85 against 29", 29, pool.substitutes());
        pool.takeCash(1);
        Check.due("29.85 against 28", 28, pool.substitutes());
        pool.addBond(8, 50);
        Check.due("31.05 against 36", 31, pool.substitutes());
        Coverpool least = new Coverpool();
        least.addBond(6, 50);
        Check.due("0.9", 0, least.substitutes());
        least.addBond(1, 50);
        Check.due("1.05", 1, least.substitutes());
        least.takeCash(7);
        Check.due("no cash", 0, least.substitutes());
    }
}
