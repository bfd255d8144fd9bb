/** Promises 1 to 9: a new object, and the calls on loans. */
public final class LoansTest {
    private static final Class<IllegalArgumentException> ARGUMENT = IllegalArgumentException.class;
    private static final Class<IllegalStateException> STATE = IllegalStateException.class;
    private static final Class<IndexOutOfBoundsException> INDEX = IndexOutOfBoundsException.class;
    private static final int LOW = Integer.MIN_VALUE, HIGH = Integer.MAX_VALUE;

    public static void main(String[] args) {
        aNewObjectIsEmpty();
        addLoanNumbersLoans();
        addLoanTakesTheEdges();
        addLoanRefusesWhatIsOutOfRange();
        addLoanCountsDueMonthsFromNow();
        addLoanRefusesTheThirteenth();
        enterAnswersForWhatTheLoanCounts();
        enterRefuses();
        leaveAsksAllTests();
        leaveRefuses();
        swapKeepsTheTestsThatHold();
        swapMindsEachTest();
        swapRefuses();
        setArrearsAnswersTheMonthsBefore();
        setArrearsRefuses();
        setWorthAnswersTheWorthBefore();
        setWorthRefuses();
        stateOfTellsEachState();
        countsRoundsDownAndTakesTheLesser();
        countsMindsArrearsAndRank();
        numbersOfNoLoanAreRefused();
        Check.end();
    }

    private static void aNewObjectIsEmpty() {
        Coverpool pool = new Coverpool();
        Check.dueThrow("new: stateOf(0)", INDEX, () -> pool.stateOf(0));
        Check.dueThrow("new: bondState(0)", INDEX, () -> pool.bondState(0));
        Check.due("new: cash()", 0, pool.cash());
        Check.due("new: debt()", 0, pool.debt());
        Check.due("new: substitutes()", 0, pool.substitutes());
        for (int test = Coverpool.FACE; test <= Coverpool.MONEY; test++) {
            Check.due("new: holds(" + test + ")", true, pool.holds(test));
            Check.due("new: lacking(" + test + ")", 0, pool.lacking(test));
        }
        Check.due("new: leastToAdd()", 0, pool.leastToAdd());
        Check.due("new: leastToAddByAll()", 0, pool.leastToAddByAll());
        Check.due("new: pass(1) leads from month 0", 1, pool.pass(1));
        Coverpool other = new Coverpool();
        other.addBond(100, 5);
        Check.due("another object's cash stays", 0, pool.cash());
        Check.due("another object's month stays", 1, other.pass(1));
    }

    private static void addLoanNumbersLoans() {
        Coverpool pool = new Coverpool();
        for (int loan = 0; loan < 12; loan++) {
            Check.due("addLoan", loan, pool.addLoan(100 + loan, 20000, 1, 5));
            Check.due("a new loan is OUT", Coverpool.OUT, pool.stateOf(loan));
            Check.due("a new loan counts", 100 + loan, pool.counts(loan));
        }
        Check.due("loans bring no cash", 0, pool.cash());
    }

    private static void addLoanTakesTheEdges() {
        Coverpool pool = new Coverpool();
        Check.due("least loan", 0, pool.addLoan(1, 0, 1, 1));
        Check.due("greatest loan", 1, pool.addLoan(10000, 20000, 5, 600));
        pool.setRules(5, 5, 6);
        Check.due("least loan counts", 0, pool.counts(0));
        Check.due("greatest loan counts", 10000, pool.counts(1));
    }

    private static void addLoanRefusesWhatIsOutOfRange() {
        Coverpool pool = new Coverpool();
        pool.addLoan(5, 5, 1, 5);
        for (int amount : new int[] {LOW, -1, 0, 10001, HIGH}) {
            Check.dueThrowAndNoChange(pool, "addLoan amount " + amount, ARGUMENT, () -> pool.addLoan(amount, 5, 1, 5));
        }
        for (int worth : new int[] {LOW, -1, 20001, HIGH}) {
            Check.dueThrowAndNoChange(pool, "addLoan worth " + worth, ARGUMENT, () -> pool.addLoan(5, worth, 1, 5));
        }
        for (int rank : new int[] {LOW, -1, 0, 6, HIGH}) {
            Check.dueThrowAndNoChange(pool, "addLoan rank " + rank, ARGUMENT, () -> pool.addLoan(5, 5, rank, 5));
        }
        for (int due : new int[] {LOW, -1, 0, 601, HIGH}) {
            Check.dueThrowAndNoChange(pool, "addLoan due " + due, ARGUMENT, () -> pool.addLoan(5, 5, 1, due));
        }
        Check.due("the next number after refusals", 1, pool.addLoan(5, 5, 1, 5));
    }

    private static void addLoanCountsDueMonthsFromNow() {
        Coverpool pool = new Coverpool();
        pool.pass(10);
        Check.dueThrowAndNoChange(pool, "addLoan due now", ARGUMENT, () -> pool.addLoan(5, 5, 1, 10));
        Check.dueThrowAndNoChange(pool, "addLoan due 601", ARGUMENT, () -> pool.addLoan(5, 5, 1, 601));
        Check.due("addLoan due next month", 0, pool.addLoan(5, 5, 1, 11));
        Check.due("addLoan due 600", 1, pool.addLoan(5, 5, 1, 600));
        passTo(pool, 10, 599);
        Check.due("addLoan due 600 in month 599", 2, pool.addLoan(5, 5, 1, 600));
        pool.pass(1);
        Check.dueThrowAndNoChange(pool, "addLoan due 600 in month 600", ARGUMENT, () -> pool.addLoan(5, 5, 1, 600));
        Check.dueThrowAndNoChange(pool, "addLoan due 601 in month 600", ARGUMENT, () -> pool.addLoan(5, 5, 1, 601));
    }

    private static void passTo(Coverpool pool, int from, int to) {
        for (int month = from; month < to; ) {
            month = pool.pass(Math.min(24, to - month));
        }
    }

    private static void addLoanRefusesTheThirteenth() {
        Coverpool pool = new Coverpool();
        for (int loan = 0; loan < 12; loan++) {
            pool.addLoan(5, 10, 1, 1);
        }
        Check.dueThrowAndNoChange(pool, "addLoan the 13th", STATE, () -> pool.addLoan(5, 5, 1, 5));
        Check.dueThrowAndNoChange(pool, "addLoan the 13th out of range", ARGUMENT, () -> pool.addLoan(0, 5, 1, 5));
        Check.dueThrowAndNoChange(pool, "addLoan the 13th due now", ARGUMENT, () -> pool.addLoan(5, 5, 1, 0));
        pool.enter(0);
        pool.pass(1);
        Check.due("the first is paid", Coverpool.PAID, pool.stateOf(0));
        Check.dueThrow("addLoan the 13th beside a paid one", STATE, () -> pool.addLoan(5, 5, 1, 5));
    }

    private static void enterAnswersForWhatTheLoanCounts() {
        Coverpool pool = new Coverpool();
        pool.addLoan(100, 99, 1, 5);
        pool.addLoan(100, 200, 4, 5);
        pool.addLoan(100, 200, 3, 5);
        pool.setArrears(2, 3);
        Check.due("enter(0)", 79, pool.enter(0));
        Check.due("enter(1) of rank 4", 0, pool.enter(1));
        Check.due("enter(2) in arrears", 0, pool.enter(2));
        for (int loan = 0; loan < 3; loan++) {
            Check.due("it is IN", Coverpool.IN, pool.stateOf(loan));
        }
        pool.setRules(4, 5, 6);
        Check.due("counts(1) when rank 4 counts", 100, pool.counts(1));
    }

    private static void enterRefuses() {
        Coverpool pool = new Coverpool();
        pool.addLoan(100, 200, 1, 1);
        pool.enter(0);
        Check.dueThrowAndNoChange(pool, "enter one that is IN", STATE, () -> pool.enter(0));
        pool.pass(1);
        Check.dueThrowAndNoChange(pool, "enter one that is PAID", STATE, () -> pool.enter(0));
        Check.dueThrowAndNoChange(pool, "enter no loan", INDEX, () -> pool.enter(1));
    }

    private static void leaveAsksAllTests() {
        Coverpool pool = new Coverpool();
        pool.addLoan(100, 200, 1, 50);
        pool.addLoan(6, 200, 1, 50);
        pool.enter(0);
        pool.enter(1);
        pool.addBond(100, 50);
        pool.takeCash(100);
        pool.setRules(3, 6, 0);
        Check.due("leave when FACE fails without it", false, pool.leave(1));
        Check.due("it stays IN", Coverpool.IN, pool.stateOf(1));
        pool.setRules(3, 0, 0);
        Check.due("leave when FACE just holds without it", true, pool.leave(1));
        Check.due("it is OUT", Coverpool.OUT, pool.stateOf(1));
        pool.enter(1);
        pool.setWorth(0, 0);
        Check.due("leave when a test fails already", false, pool.leave(0));
        leaveAsksWorthAndMoney();
    }

    private static void leaveAsksWorthAndMoney() {
        Coverpool worth = coveredByOneLoan(600, 30, 10);
        worth.addLoan(10, 200, 1, 500);
        worth.enter(1);
        worth.setRules(3, 0, 20);
        worth.setWorth(0, 130);
        worth.addLoan(100, 200, 1, 30);
        worth.enter(2);
        Check.due("leave when WORTH fails without it", false, worth.leave(2));
        Check.due("leave when WORTH holds without it", true, worth.leave(1));

        Coverpool money = coveredByOneLoan(3, 3, 100);
        money.addLoan(200, 400, 1, 9);
        money.enter(1);
        Check.due("leave when MONEY fails without it", false, money.leave(0));
        money.addLoan(100, 400, 1, 3);
        money.enter(2);
        Check.due("leave when MONEY holds without it", true, money.leave(0));
    }

    /** A bond of 100 without cash, and a loan in the pool that covers it at the cover 0. */
    private static Coverpool coveredByOneLoan(int dueOfLoan, int dueOfBond, int amount) {
        Coverpool pool = new Coverpool();
        pool.setRules(3, 0, 6);
        pool.addLoan(Math.max(amount, 100), 400, 1, dueOfLoan);
        pool.enter(0);
        pool.addBond(100, dueOfBond);
        pool.takeCash(100);
        return pool;
    }

    private static void leaveRefuses() {
        Coverpool pool = new Coverpool();
        pool.addLoan(100, 200, 1, 1);
        Check.dueThrowAndNoChange(pool, "leave one that is OUT", STATE, () -> pool.leave(0));
        pool.enter(0);
        pool.pass(1);
        Check.dueThrowAndNoChange(pool, "leave one that is PAID", STATE, () -> pool.leave(0));
        Check.dueThrowAndNoChange(pool, "leave no loan", INDEX, () -> pool.leave(1));
    }

    private static void swapKeepsTheTestsThatHold() {
        Coverpool pool = coveredByOneLoan(50, 50, 100);
        pool.addLoan(99, 400, 1, 50);
        pool.addLoan(100, 400, 1, 50);
        Check.due("swap for too little", false, pool.swap(0, 1));
        Check.due("the one stays IN", Coverpool.IN, pool.stateOf(0));
        Check.due("the other stays OUT", Coverpool.OUT, pool.stateOf(1));
        Check.due("swap for as much", true, pool.swap(0, 2));
        Check.due("the one is OUT", Coverpool.OUT, pool.stateOf(0));
        Check.due("the other is IN", Coverpool.IN, pool.stateOf(2));
        pool.addBond(1000, 50);
        pool.takeCash(1000);
        Check.due("FACE fails now", false, pool.holds(Coverpool.FACE));
        Check.due("WORTH fails now", false, pool.holds(Coverpool.WORTH));
        Check.due("swap for less when only MONEY holds", true, pool.swap(2, 1));
        Check.due("the lesser one is IN", Coverpool.IN, pool.stateOf(1));
    }

    private static void swapMindsEachTest() {
        Coverpool face = coveredByOneLoan(50, 50, 106);
        face.setRules(3, 6, 0);
        face.addLoan(105, 400, 1, 50);
        Check.due("swap when FACE alone would fail", false, face.swap(0, 1));
        Coverpool worth = coveredByOneLoan(50, 50, 100);
        worth.addLoan(100, 400, 1, 100);
        Check.due("swap when WORTH alone would fail", false, worth.swap(0, 1));
        Coverpool money = coveredByOneLoan(3, 3, 100);
        money.addLoan(200, 400, 1, 9);
        Check.due("swap when MONEY alone would fail", false, money.swap(0, 1));
        Check.due("and back nothing has changed", Coverpool.IN, money.stateOf(0));
    }

    private static void swapRefuses() {
        Coverpool pool = new Coverpool();
        pool.addLoan(100, 200, 1, 1);
        pool.addLoan(100, 200, 1, 5);
        pool.addLoan(100, 200, 1, 5);
        Check.dueThrowAndNoChange(pool, "swap out one that is OUT", STATE, () -> pool.swap(0, 1));
        pool.enter(0);
        pool.enter(1);
        Check.dueThrowAndNoChange(pool, "swap in one that is IN", STATE, () -> pool.swap(0, 1));
        Check.dueThrowAndNoChange(pool, "swap one for itself", STATE, () -> pool.swap(0, 0));
        Check.dueThrowAndNoChange(pool, "swap OUT for itself", STATE, () -> pool.swap(2, 2));
        Check.dueThrowAndNoChange(pool, "swap no loan", INDEX, () -> pool.swap(3, 2));
        Check.dueThrowAndNoChange(pool, "swap for no loan", INDEX, () -> pool.swap(0, 3));
        Check.dueThrowAndNoChange(pool, "swap OUT for no loan", INDEX, () -> pool.swap(2, -1));
        pool.pass(1);
        Check.dueThrowAndNoChange(pool, "swap out one that is PAID", STATE, () -> pool.swap(0, 2));
        Check.dueThrowAndNoChange(pool, "swap in one that is PAID", STATE, () -> pool.swap(1, 0));
    }

    private static void setArrearsAnswersTheMonthsBefore() {
        Coverpool pool = new Coverpool();
        pool.addLoan(100, 200, 1, 5);
        Check.due("setArrears(0, 60)", 0, pool.setArrears(0, 60));
        Check.due("setArrears(0, 2)", 60, pool.setArrears(0, 2));
        pool.enter(0);
        Check.due("setArrears(0, 0) of one that is IN", 2, pool.setArrears(0, 0));
        Check.due("setArrears(0, 1)", 0, pool.setArrears(0, 1));
    }

    private static void setArrearsRefuses() {
        Coverpool pool = new Coverpool();
        pool.addLoan(100, 200, 1, 1);
        for (int arrears : new int[] {LOW, -1, 61, HIGH}) {
            Check.dueThrowAndNoChange(pool, "setArrears " + arrears, ARGUMENT, () -> pool.setArrears(0, arrears));
            Check.dueThrowAndNoChange(pool, "setArrears of no loan", INDEX, () -> pool.setArrears(1, arrears));
        }
        Check.due("arrears are as before", 0, pool.setArrears(0, 0));
        pool.enter(0);
        pool.pass(1);
        Check.dueThrowAndNoChange(pool, "setArrears of a paid one", STATE, () -> pool.setArrears(0, 3));
        Check.dueThrowAndNoChange(pool, "setArrears 61 of a paid one", ARGUMENT, () -> pool.setArrears(0, 61));
    }

    private static void setWorthAnswersTheWorthBefore() {
        Coverpool pool = new Coverpool();
        pool.addLoan(10000, 200, 1, 1);
        Check.due("setWorth(0, 20000)", 200, pool.setWorth(0, 20000));
        Check.due("counts(0) then", 10000, pool.counts(0));
        Check.due("setWorth(0, 0)", 20000, pool.setWorth(0, 0));
        Check.due("counts(0) at no worth", 0, pool.counts(0));
        pool.enter(0);
        pool.pass(1);
        Check.due("setWorth of a paid one", 0, pool.setWorth(0, 50));
        Check.due("counts of a paid one", 40, pool.counts(0));
    }

    private static void setWorthRefuses() {
        Coverpool pool = new Coverpool();
        pool.addLoan(100, 70, 1, 1);
        for (int worth : new int[] {LOW, -1, 20001, HIGH}) {
            Check.dueThrowAndNoChange(pool, "setWorth " + worth, ARGUMENT, () -> pool.setWorth(0, worth));
            Check.dueThrowAndNoChange(pool, "setWorth of no loan", INDEX, () -> pool.setWorth(1, worth));
        }
        Check.due("the worth is as before", 70, pool.setWorth(0, 70));
    }

    private static void stateOfTellsEachState() {
        Coverpool pool = new Coverpool();
        pool.addLoan(100, 200, 1, 1);
        Check.due("OUT", Coverpool.OUT, pool.stateOf(0));
        pool.enter(0);
        Check.due("IN", Coverpool.IN, pool.stateOf(0));
        pool.leave(0);
        Check.due("OUT again", Coverpool.OUT, pool.stateOf(0));
        pool.enter(0);
        pool.pass(1);
        Check.due("PAID", Coverpool.PAID, pool.stateOf(0));
    }

    private static void countsRoundsDownAndTakesTheLesser() {
        Coverpool pool = new Coverpool();
        pool.addLoan(80, 99, 1, 1);
        Check.due("79.2 against 80", 79, pool.counts(0));
        pool.setWorth(0, 100);
        Check.due("80 against 80", 80, pool.counts(0));
        pool.setWorth(0, 102);
        Check.due("81.6 against 80", 80, pool.counts(0));
        pool.setWorth(0, 1);
        Check.due("0.8 against 80", 0, pool.counts(0));
        pool.enter(0);
        pool.pass(1);
        pool.setWorth(0, 10);
        Check.due("a paid one counts the same", 8, pool.counts(0));
    }

    private static void countsMindsArrearsAndRank() {
        Coverpool pool = new Coverpool();
        for (int rank = 1; rank <= 5; rank++) {
            pool.addLoan(10 * rank, 200, rank, 5);
        }
        dueCountsUpToRank("at first", pool, 3);
        for (int greatest = 1; greatest <= 5; greatest++) {
            pool.setRules(greatest, 5, 6);
            dueCountsUpToRank("up to rank " + greatest, pool, greatest);
        }
        pool.setArrears(0, 2);
        Check.due("2 months in arrears", 10, pool.counts(0));
        for (int arrears : new int[] {3, 4, 60}) {
            pool.setArrears(0, arrears);
            Check.due(arrears + " months in arrears", 0, pool.counts(0));
        }
    }

    private static void dueCountsUpToRank(String what, Coverpool pool, int greatest) {
        for (int rank = 1; rank <= 5; rank++) {
            Check.due("rank " + rank + " " + what, rank <= greatest ? 10 * rank : 0, pool.counts(rank - 1));
        }
    }

    private static void numbersOfNoLoanAreRefused() {
        Coverpool pool = new Coverpool();
        pool.addLoan(100, 200, 1, 1);
        for (int loan : new int[] {LOW, -1, 1, 12, HIGH}) {
            Check.dueThrow("enter(" + loan + ")", INDEX, () -> pool.enter(loan));
            Check.dueThrow("leave(" + loan + ")", INDEX, () -> pool.leave(loan));
            Check.dueThrow("swap(" + loan + ", 0)", INDEX, () -> pool.swap(loan, 0));
            Check.dueThrow("swap(0, " + loan + ")", INDEX, () -> pool.swap(0, loan));
            Check.dueThrow("setArrears(" + loan + ", 0)", INDEX, () -> pool.setArrears(loan, 0));
            Check.dueThrow("setWorth(" + loan + ", 0)", INDEX, () -> pool.setWorth(loan, 0));
            Check.dueThrow("stateOf(" + loan + ")", INDEX, () -> pool.stateOf(loan));
            Check.dueThrow("counts(" + loan + ")", INDEX, () -> pool.counts(loan));
        }
    }
}
