/** Promises 1 to 9: a new object, and the calls on loans. */
final class PromisesOfLoans {
    private static final Class<IllegalArgumentException> ARGUMENT = IllegalArgumentException.class;
    private static final Class<IllegalStateException> STATE = IllegalStateException.class;
    private static final Class<IndexOutOfBoundsException> INDEX = IndexOutOfBoundsException.class;
    private static final int LOW = Check.LOW, HIGH = Check.HIGH;
    private static final int[] NO_LOANS = {LOW, -1, 3, 12, HIGH};

    private PromisesOfLoans() {
    }

    static void tell(Told told) {
        told.section("Promise 1: A new object");
        told.says("Begins without loans and bonds.", PromisesOfLoans::beginsEmpty);
        tellAddLoan(told);
        tellEnter(told);
        tellLeave(told);
        tellSwap(told);
        tellSetArrears(told);
        tellSetWorth(told);
        told.section("Promise 8: stateOf");
        told.says("Returns the state of a loan: OUT, IN or PAID.", PromisesOfLoans::stateOfReturns);
        told.says("Throws `IndexOutOfBoundsException` if there is no such loan", PromisesOfLoans::stateOfNone);
        told.section("Promise 9: counts");
        told.says("Returns for what a loan counts if it is in the pool,", PromisesOfLoans::countsOfOneInThePool);
        told.says("or would count if it was, OUT or PAID.", PromisesOfLoans::countsOfOneOutOrPaid);
        told.says("Throws `IndexOutOfBoundsException` if there is no such loan", PromisesOfLoans::countsOfNone);
    }

    private static void beginsEmpty() {
        Coverpool pool = new Coverpool();
        Check.dueThrow("stateOf(0)", INDEX, () -> pool.stateOf(0));
        Check.dueThrow("bondState(0)", INDEX, () -> pool.bondState(0));
        Check.due("debt()", 0, pool.debt());
        Check.due("substitutes()", 0, pool.substitutes());
        for (int test = Coverpool.FACE; test <= Coverpool.MONEY; test++) {
            Check.due("holds(" + test + ")", true, pool.holds(test));
            Check.due("lacking(" + test + ")", 0, pool.lacking(test));
        }
        Check.due("leastToAdd()", 0, pool.leastToAdd());
        Check.due("leastToAddByAll()", 0, pool.leastToAddByAll());
        Coverpool full = Pools.withTwelveLoans();
        Check.dueThrow("stateOf(0) beside a full object", INDEX, () -> pool.stateOf(0));
        Check.due("the first number beside a full object", 0, pool.addLoan(5, 5, 1, 5));
        Check.due("the full one", 100, full.counts(0));
    }

    // ---- addLoan

    private static void tellAddLoan(Told told) {
        told.section("Promise 2: addLoan");
        told.says("Adds a loan.", PromisesOfLoans::addLoanAdds);
        told.says("- `amount`: 1 to 10000", PromisesOfLoans::addLoanAmount);
        told.says("- `worth`: 0 to 20000", PromisesOfLoans::addLoanWorth);
        told.says("- `rank`: 1 to 5", PromisesOfLoans::addLoanRank);
        told.says("- `due`: the month now + 1 to 600", PromisesOfLoans::addLoanDue);
        told.says("Returns its number.", PromisesOfLoans::addLoanReturns);
        told.says("Throws `IllegalArgumentException` if amount, worth, rank or due is out of range",
            PromisesOfLoans::addLoanOutOfRange);
        told.says("Throws `IllegalStateException` if there are 12", PromisesOfLoans::addLoanTheThirteenth);
    }

    private static void addLoanAdds() {
        Coverpool pool = new Coverpool();
        pool.addLoan(100, 110, 1, 9);
        Check.due("it is OUT", Coverpool.OUT, pool.stateOf(0));
        Check.due("counts", 88, pool.counts(0));
        Check.due("it brings no cash", 0, pool.cash());
        pool.addLoan(50, 110, 1, 9);
        Check.due("the first one stays", 88, pool.counts(0));
        Check.due("the second one", 50, pool.counts(1));
    }

    private static void addLoanAmount() {
        Coverpool pool = new Coverpool();
        Check.due("1", 0, pool.addLoan(1, 20000, 1, 5));
        Check.due("it counts for", 1, pool.counts(0));
        Check.due("10000", 1, pool.addLoan(10000, 20000, 1, 5));
        Check.due("it counts for", 10000, pool.counts(1));
        Check.dueRefused("0", ARGUMENT, Pools::ofEachState, each -> each.addLoan(0, 5, 1, 5));
        Check.dueRefused("10001", ARGUMENT, Pools::ofEachState, each -> each.addLoan(10001, 5, 1, 5));
    }

    private static void addLoanWorth() {
        Coverpool pool = new Coverpool();
        Check.due("0", 0, pool.addLoan(5, 0, 1, 5));
        Check.due("it is worth", 0, pool.setWorth(0, 0));
        Check.due("20000", 1, pool.addLoan(5, 20000, 1, 5));
        Check.due("it is worth", 20000, pool.setWorth(1, 0));
        Check.dueRefused("-1", ARGUMENT, Pools::ofEachState, each -> each.addLoan(5, -1, 1, 5));
        Check.dueRefused("20001", ARGUMENT, Pools::ofEachState, each -> each.addLoan(5, 20001, 1, 5));
    }

    private static void addLoanRank() {
        Coverpool pool = new Coverpool();
        Check.due("1", 0, pool.addLoan(5, 10, 1, 5));
        Check.due("5", 1, pool.addLoan(5, 10, 5, 5));
        pool.setRules(1, 5, 6);
        Check.due("1 counts up to rank 1", 5, pool.counts(0));
        pool.setRules(4, 5, 6);
        Check.due("5 does not up to rank 4", 0, pool.counts(1));
        pool.setRules(5, 5, 6);
        Check.due("5 counts up to rank 5", 5, pool.counts(1));
        Check.dueRefused("0", ARGUMENT, Pools::ofEachState, each -> each.addLoan(5, 5, 0, 5));
        Check.dueRefused("6", ARGUMENT, Pools::ofEachState, each -> each.addLoan(5, 5, 6, 5));
    }

    private static void addLoanDue() {
        Coverpool first = new Coverpool();
        Check.due("1 in month 0", 0, first.addLoan(5, 5, 1, 1));
        Check.due("600 in month 0", 1, first.addLoan(5, 5, 1, 600));
        Check.dueRefused("0 in month 0", ARGUMENT, Coverpool::new, each -> each.addLoan(5, 5, 1, 0));
        Check.dueRefused("601 in month 0", ARGUMENT, Coverpool::new, each -> each.addLoan(5, 5, 1, 601));
        Coverpool later = Pools.inMonth(10);
        Check.due("11 in month 10", 0, later.addLoan(5, 5, 1, 11));
        Check.due("600 in month 10", 1, later.addLoan(5, 5, 1, 600));
        Check.dueRefused("10 in month 10", ARGUMENT, () -> Pools.inMonth(10), each -> each.addLoan(5, 5, 1, 10));
        Check.dueRefused("601 in month 10", ARGUMENT, () -> Pools.inMonth(10), each -> each.addLoan(5, 5, 1, 601));
        Check.due("600 in month 599", 0, Pools.inMonth(599).addLoan(5, 5, 1, 600));
        Check.dueRefused("600 in month 600", ARGUMENT, () -> Pools.inMonth(600), each -> each.addLoan(5, 5, 1, 600));
        Check.dueRefused("601 in month 600", ARGUMENT, () -> Pools.inMonth(600), each -> each.addLoan(5, 5, 1, 601));
    }

    private static void addLoanReturns() {
        Coverpool pool = new Coverpool();
        for (int loan = 0; loan < 12; loan++) {
            Check.dueThrow("refused ahead of it", ARGUMENT, () -> pool.addLoan(0, 5, 1, 5));
            Check.due("addLoan", loan, pool.addLoan(5, 5, 1, 5));
        }
    }

    private static void addLoanOutOfRange() {
        for (int value : new int[] {LOW, -1, HIGH}) {
            Check.dueRefused("amount " + value, ARGUMENT, Pools::ofEachState, pool -> pool.addLoan(value, 5, 1, 5));
            Check.dueRefused("worth " + value, ARGUMENT, Pools::ofEachState, pool -> pool.addLoan(5, value, 1, 5));
            Check.dueRefused("rank " + value, ARGUMENT, Pools::ofEachState, pool -> pool.addLoan(5, 5, value, 5));
            Check.dueRefused("due " + value, ARGUMENT, Pools::ofEachState, pool -> pool.addLoan(5, 5, 1, value));
        }
    }

    private static void addLoanTheThirteenth() {
        Coverpool pool = new Coverpool();
        for (int loan = 0; loan < 11; loan++) {
            pool.addLoan(5, 5, 1, 5);
        }
        Check.due("the 12th", 11, pool.addLoan(5, 5, 1, 5));
        Check.dueRefused("the 13th", STATE, Pools::withTwelveLoans, each -> each.addLoan(5, 5, 1, 5));
        Check.dueRefused("the 13th in other months", STATE, PromisesOfLoans::twelvePaid, each -> each.addLoan(5, 5, 1, 50));
    }

    private static Coverpool twelvePaid() {
        Coverpool pool = Pools.withTwelveLoans();
        for (int loan = 0; loan < 12; loan++) {
            pool.enter(loan);
        }
        pool.pass(20);
        return pool;
    }

    // ---- enter

    private static void tellEnter(Told told) {
        told.section("Promise 3: enter");
        told.says("Lets a loan enter the pool.", PromisesOfLoans::enterEnters);
        told.says("Returns for what it counts then.", PromisesOfLoans::enterReturns);
        told.says("Throws `IndexOutOfBoundsException` if there is no such loan", PromisesOfLoans::enterNone);
        told.says("Throws `IllegalStateException` if it is not OUT", PromisesOfLoans::enterNotOut);
    }

    private static void enterEnters() {
        Coverpool pool = Pools.withPlainDebt(100, 50);
        Pools.addAllOut(pool, 60, 30);
        pool.enter(1);
        Check.due("it is IN", Coverpool.IN, pool.stateOf(1));
        Check.due("the other is OUT", Coverpool.OUT, pool.stateOf(0));
        Check.due("70 is lacking", 7000, pool.lacking(Coverpool.FACE));
        pool.enter(0);
        Check.due("10 is lacking", 1000, pool.lacking(Coverpool.FACE));
        Coverpool late = new Coverpool();
        Pools.addOut(late, 100, 1);
        late.pass(2);
        Check.due("one past its due month", 100, late.enter(0));
        Check.due("it is IN, too", Coverpool.IN, late.stateOf(0));
    }

    private static void enterReturns() {
        Coverpool pool = new Coverpool();
        pool.addLoan(100, 99, 1, 5);
        pool.addLoan(100, 200, 4, 5);
        pool.addLoan(100, 200, 3, 5);
        pool.setArrears(2, 3);
        Check.due("enter(0)", 79, pool.enter(0));
        Check.due("enter(1) of rank 4", 0, pool.enter(1));
        Check.due("enter(2) in arrears", 0, pool.enter(2));
        for (int loan = 0; loan < 3; loan++) {
            Check.due("it is IN", Coverpool.IN, pool.stateOf(loan));
        }
    }

    private static void enterNone() {
        for (int loan : NO_LOANS) {
            Check.dueRefused("enter(" + loan + ")", INDEX, Pools::ofEachState, pool -> pool.enter(loan));
        }
    }

    private static void enterNotOut() {
        Check.dueRefused("one that is IN", STATE, Pools::ofEachState, pool -> pool.enter(1));
        Check.dueRefused("one that is PAID", STATE, Pools::ofEachState, pool -> pool.enter(2));
        Check.due("one that is OUT", 96, Pools.ofEachState().enter(0));
    }

    // ---- leave

    private static void tellLeave(Told told) {
        told.section("Promise 4: leave");
        told.says("Lets a loan leave the pool,", PromisesOfLoans::leaveLeaves);
        told.says("if all tests hold without it.", PromisesOfLoans::leaveAsksAllTests);
        told.says("Returns true if it leaves.", PromisesOfLoans::leaveReturns);
        told.says("Throws `IndexOutOfBoundsException` if there is no such loan", PromisesOfLoans::leaveNone);
        told.says("Throws `IllegalStateException` if it is not IN", PromisesOfLoans::leaveNotIn);
    }

    private static void leaveLeaves() {
        Coverpool pool = new Coverpool();
        Pools.addIn(pool, 100, 50);
        Pools.addIn(pool, 90, 50);
        pool.leave(0);
        Check.due("it is OUT", Coverpool.OUT, pool.stateOf(0));
        Check.due("the other is IN", Coverpool.IN, pool.stateOf(1));
        pool.addBond(200, 50);
        pool.takeCash(200);
        Check.due("90 alone are in the pool", 12000, pool.lacking(Coverpool.FACE));
    }

    private static void leaveAsksAllTests() {
        Coverpool face = Pools.withPlainDebtAndLoan(100, 50, 100, 50);
        Pools.addIn(face, 6, 50);
        face.setRules(3, 6, 0);
        Check.due("FACE alone fails without it", false, face.leave(1));
        face.setRules(3, 0, 0);
        Check.due("FACE just holds without it", true, face.leave(1));

        // whatever fails at the rate 0 fails FACE, too, so that the stress rate is the only one that can fail alone
        Coverpool stress = Pools.withPlainDebtAndLoan(1000, 10, 1000, 100);
        stress.setRules(3, 0, 6);
        Pools.addIn(stress, 300, 10);
        // 952 against 666, and 285 or 286 more: 300 is worth 285, 301 is 286
        Check.due("the stress rate fails with both", 1, stress.lacking(Coverpool.WORTH));
        Pools.addIn(stress, 301, 10);
        Check.due("the stress rate alone fails without it", false, stress.leave(2));
        Check.due("the stress rate just holds without it", true, stress.leave(1));

        Coverpool money = Pools.withPlainDebtAndLoan(100, 3, 100, 3);
        Pools.addIn(money, 200, 9);
        Check.due("MONEY alone fails without it", false, money.leave(0));
        Pools.addIn(money, 100, 3);
        Check.due("MONEY just holds without it", true, money.leave(0));
    }

    private static void leaveReturns() {
        Coverpool pool = Pools.withPlainDebtAndLoan(100, 50, 100, 50);
        Pools.addIn(pool, 60, 50);
        Check.due("without 60", true, pool.leave(1));
        Check.due("it is OUT", Coverpool.OUT, pool.stateOf(1));
        Check.due("without 100", false, pool.leave(0));
        Check.due("it stays IN", Coverpool.IN, pool.stateOf(0));
        Check.due("all as before", 0, pool.lacking(Coverpool.FACE));
        pool.enter(1);
        pool.setWorth(0, 0);
        Check.due("a test fails with it and without it", false, pool.leave(0));
        Check.due("it stays IN, too", Coverpool.IN, pool.stateOf(0));
        Coverpool free = new Coverpool();
        Pools.addIn(free, 100, 50);
        Check.due("the only one of a pool without debt", true, free.leave(0));
    }

    private static void leaveNone() {
        for (int loan : NO_LOANS) {
            Check.dueRefused("leave(" + loan + ")", INDEX, Pools::ofEachState, pool -> pool.leave(loan));
        }
    }

    private static void leaveNotIn() {
        Check.dueRefused("one that is OUT", STATE, Pools::ofEachState, pool -> pool.leave(0));
        Check.dueRefused("one that is PAID", STATE, Pools::ofEachState, pool -> pool.leave(2));
    }

    // ---- swap

    private static void tellSwap(Told told) {
        told.section("Promise 5: swap");
        told.says("Lets a loan leave the pool and another one enter it,", PromisesOfLoans::swapSwaps);
        told.says("if all tests that hold now hold then, too.", PromisesOfLoans::swapKeepsTheTestsThatHold);
        told.says("Returns true if they do.", PromisesOfLoans::swapReturns);
        told.says("Throws `IndexOutOfBoundsException` if there is no such loan, or no such other one",
            PromisesOfLoans::swapNone);
        told.says("Throws `IllegalStateException` if loan is not IN, or other is not OUT", PromisesOfLoans::swapNotInOrOut);
    }

    private static void swapSwaps() {
        Coverpool pool = Pools.withPlainDebtAndLoan(100, 50, 40, 50);
        Pools.addAllOut(pool, 70, 90);
        pool.swap(0, 2);
        Check.due("the one", Coverpool.OUT, pool.stateOf(0));
        Check.due("the other", Coverpool.IN, pool.stateOf(2));
        Check.due("a third", Coverpool.OUT, pool.stateOf(1));
        Check.due("10 is lacking", 1000, pool.lacking(Coverpool.FACE));
    }

    private static void swapKeepsTheTestsThatHold() {
        Coverpool face = Pools.withPlainDebtAndLoan(67, 50, 70, 50);
        face.setRules(3, 3, 0);
        Pools.addAllOut(face, 69, 70);
        Check.due("FACE alone would fail, 6900 for 6901", false, face.swap(0, 1));
        Check.due("FACE would hold", true, face.swap(0, 2));
        Coverpool worth = Pools.withPlainDebtAndLoan(100, 50, 100, 50);
        worth.setRules(3, 0, 6);
        Pools.addOut(worth, 100, 51);
        Pools.addOut(worth, 100, 50);
        Check.due("WORTH alone would fail, 79 for 80", false, worth.swap(0, 1));
        Check.due("WORTH would just hold", true, worth.swap(0, 2));
        Coverpool money = Pools.withPlainDebtAndLoan(100, 3, 100, 3);
        Pools.addIn(money, 50, 9);
        Pools.addOut(money, 99, 3);
        Pools.addOut(money, 100, 2);
        Check.due("MONEY alone would fail, 99 for 100", false, money.swap(0, 2));
        Check.due("MONEY would just hold", true, money.swap(0, 3));
        swapNeedsNoTestThatFailsNow();
    }

    private static void swapNeedsNoTestThatFailsNow() {
        Coverpool pool = Pools.withPlainDebtAndLoan(1000, 50, 100, 50);
        Pools.addAllOut(pool, 1);
        Check.due("FACE and WORTH fail as before, MONEY holds", true, pool.swap(0, 1));
        Coverpool money = Pools.withPlainDebtAndLoan(100, 3, 100, 9);
        Pools.addOut(money, 99, 9);
        Pools.addOut(money, 100, 9);
        Check.due("MONEY fails, FACE and WORTH would", false, money.swap(0, 1));
        Check.due("MONEY fails as before", true, money.swap(0, 2));
        Coverpool worth = Pools.withPlainDebtAndLoan(100, 6, 100, 60);
        worth.setRules(3, 0, 20);
        worth.addBond(10, 20);
        Pools.addOut(worth, 100, 90);
        Check.due("WORTH fails", false, worth.holds(Coverpool.WORTH));
        Check.due("MONEY fails", false, worth.holds(Coverpool.MONEY));
        Check.due("WORTH would fail by more", true, worth.swap(0, 1));
    }

    private static void swapReturns() {
        Coverpool pool = Pools.withPlainDebtAndLoan(100, 50, 100, 50);
        Pools.addAllOut(pool, 99, 100);
        Check.due("for too little", false, pool.swap(0, 1));
        Check.due("the one stays IN", Coverpool.IN, pool.stateOf(0));
        Check.due("the other stays OUT", Coverpool.OUT, pool.stateOf(1));
        Check.due("for as much", true, pool.swap(0, 2));
        Check.due("the one is OUT", Coverpool.OUT, pool.stateOf(0));
        Check.due("the other is IN", Coverpool.IN, pool.stateOf(2));
    }

    private static void swapNone() {
        for (int loan : NO_LOANS) {
            Check.dueRefused("swap(" + loan + ", 0)", INDEX, Pools::ofEachState, pool -> pool.swap(loan, 0));
            Check.dueRefused("swap(1, " + loan + ")", INDEX, Pools::ofEachState, pool -> pool.swap(1, loan));
            Check.dueRefused("swap of " + loan + " twice", INDEX, Pools::ofEachState, pool -> pool.swap(loan, loan));
        }
    }

    private static void swapNotInOrOut() {
        int[][] pairs = {{0, 0}, {0, 1}, {0, 2}, {1, 1}, {1, 2}, {2, 0}, {2, 1}, {2, 2}};
        for (int[] pair : pairs) {
            String call = "swap(" + pair[0] + ", " + pair[1] + ")";
            Check.dueRefused(call, STATE, Pools::ofEachState, pool -> pool.swap(pair[0], pair[1]));
        }
        Coverpool two = Pools.ofEachState();
        two.addLoan(100, 120, 1, 9);
        Check.dueThrow("two that are OUT", STATE, () -> two.swap(0, 3));
        two.enter(3);
        Check.dueThrow("two that are IN", STATE, () -> two.swap(1, 3));
    }

    // ---- setArrears and setWorth

    private static void tellSetArrears(Told told) {
        told.section("Promise 6: setArrears");
        told.says("Sets how many months a loan is in arrears.", PromisesOfLoans::setArrearsSets);
        told.says("- `arrears`: 0 to 60", PromisesOfLoans::setArrearsRange);
        told.says("Returns the months before.", PromisesOfLoans::setArrearsReturns);
        told.says("Throws `IndexOutOfBoundsException` if there is no such loan", PromisesOfLoans::setArrearsOfNone);
        told.says("Throws `IllegalArgumentException` if arrears is out of range", PromisesOfLoans::setArrearsOutOfRange);
        told.says("Throws `IllegalStateException` if it is paid", PromisesOfLoans::setArrearsOfAPaidOne);
    }

    private static void setArrearsSets() {
        Coverpool pool = new Coverpool();
        Pools.addIn(pool, 100, 1);
        Pools.addIn(pool, 50, 1);
        pool.setArrears(0, 3);
        Check.due("counts(0)", 0, pool.counts(0));
        Check.due("counts(1)", 50, pool.counts(1));
        pool.setArrears(0, 2);
        Check.due("counts(0) with 2", 100, pool.counts(0));
        pool.pass(1);
        Check.due("not paid", Coverpool.IN, pool.stateOf(0));
        Check.due("the other is", Coverpool.PAID, pool.stateOf(1));
    }

    private static void setArrearsRange() {
        Coverpool pool = new Coverpool();
        Pools.addOut(pool, 100, 5);
        Check.due("60", 0, pool.setArrears(0, 60));
        Check.due("0", 60, pool.setArrears(0, 0));
        Check.due("and back", 0, pool.setArrears(0, 1));
        Check.dueRefused("-1", ARGUMENT, Pools::ofEachState, each -> each.setArrears(1, -1));
        Check.dueRefused("61", ARGUMENT, Pools::ofEachState, each -> each.setArrears(1, 61));
    }

    private static void setArrearsReturns() {
        Coverpool pool = new Coverpool();
        Pools.addOut(pool, 100, 5);
        Check.due("none at first", 0, pool.setArrears(0, 7));
        Check.due("of one that is OUT", 7, pool.setArrears(0, 2));
        pool.enter(0);
        Check.due("of one that is IN", 2, pool.setArrears(0, 4));
        pool.pass(9);
        Check.due("months that pass add none", 4, pool.setArrears(0, 0));
    }

    private static void setArrearsOfNone() {
        for (int loan : NO_LOANS) {
            Check.dueRefused("setArrears(" + loan + ", 0)", INDEX, Pools::ofEachState, pool -> pool.setArrears(loan, 0));
        }
    }

    private static void setArrearsOutOfRange() {
        for (int arrears : new int[] {LOW, HIGH}) {
            Check.dueRefused("of one that is OUT", ARGUMENT, Pools::ofEachState, pool -> pool.setArrears(0, arrears));
            Check.dueRefused("of one that is IN", ARGUMENT, Pools::ofEachState, pool -> pool.setArrears(1, arrears));
        }
    }

    private static void setArrearsOfAPaidOne() {
        Check.dueRefused("to 0", STATE, Pools::ofEachState, pool -> pool.setArrears(2, 0));
        Check.dueRefused("to 60", STATE, Pools::ofEachState, pool -> pool.setArrears(2, 60));
    }

    private static void tellSetWorth(Told told) {
        told.section("Promise 7: setWorth");
        told.says("Changes the worth of a loan.", PromisesOfLoans::setWorthChanges);
        told.says("- `worth`: 0 to 20000", PromisesOfLoans::setWorthRange);
        told.says("Returns the worth before.", PromisesOfLoans::setWorthReturns);
        told.says("Throws `IndexOutOfBoundsException` if there is no such loan", PromisesOfLoans::setWorthOfNone);
        told.says("Throws `IllegalArgumentException` if worth is out of range", PromisesOfLoans::setWorthOutOfRange);
    }

    private static void setWorthChanges() {
        Coverpool pool = Pools.withPlainDebtAndLoan(100, 50, 100, 50);
        Pools.addOut(pool, 90, 50);
        pool.setWorth(0, 50);
        Check.due("counts(0)", 40, pool.counts(0));
        Check.due("counts(1)", 90, pool.counts(1));
        Check.due("60 is lacking", 6000, pool.lacking(Coverpool.FACE));
        pool.setWorth(0, 125);
        Check.due("nothing is lacking", 0, pool.lacking(Coverpool.FACE));
    }

    private static void setWorthRange() {
        Coverpool pool = new Coverpool();
        pool.addLoan(10000, 100, 1, 5);
        pool.setWorth(0, 20000);
        Check.due("20000", 10000, pool.counts(0));
        pool.setWorth(0, 0);
        Check.due("0", 0, pool.counts(0));
        Check.dueRefused("-1", ARGUMENT, Pools::ofEachState, each -> each.setWorth(1, -1));
        Check.dueRefused("20001", ARGUMENT, Pools::ofEachState, each -> each.setWorth(1, 20001));
    }

    private static void setWorthReturns() {
        Coverpool pool = new Coverpool();
        pool.addLoan(100, 70, 1, 1);
        Check.due("that it had at first", 70, pool.setWorth(0, 20000));
        Check.due("of one that is OUT", 20000, pool.setWorth(0, 60));
        pool.enter(0);
        Check.due("of one that is IN", 60, pool.setWorth(0, 0));
        pool.pass(1);
        Check.due("of one that is PAID", 0, pool.setWorth(0, 50));
        Check.due("and again", 50, pool.setWorth(0, 50));
    }

    private static void setWorthOfNone() {
        for (int loan : NO_LOANS) {
            Check.dueRefused("setWorth(" + loan + ", 0)", INDEX, Pools::ofEachState, pool -> pool.setWorth(loan, 0));
        }
    }

    private static void setWorthOutOfRange() {
        for (int worth : new int[] {LOW, HIGH}) {
            for (int loan = 0; loan < 3; loan++) {
                int each = loan;
                Check.dueRefused("of loan " + each, ARGUMENT, Pools::ofEachState, pool -> pool.setWorth(each, worth));
            }
        }
    }

    // ---- stateOf and counts

    private static void stateOfReturns() {
        Coverpool pool = Pools.ofEachState();
        Check.due("OUT", Coverpool.OUT, pool.stateOf(0));
        Check.due("IN", Coverpool.IN, pool.stateOf(1));
        Check.due("PAID", Coverpool.PAID, pool.stateOf(2));
    }

    private static void stateOfNone() {
        for (int loan : NO_LOANS) {
            Check.dueRefused("stateOf(" + loan + ")", INDEX, Pools::ofEachState, pool -> pool.stateOf(loan));
        }
        Coverpool full = Pools.withTwelveLoans();
        Check.due("stateOf(11) of twelve", Coverpool.OUT, full.stateOf(11));
        Check.dueThrow("stateOf(12) of twelve", INDEX, () -> full.stateOf(12));
    }

    private static void countsOfOneInThePool() {
        Coverpool pool = Pools.ofEachState();
        Check.due("176 of 200", 176, pool.counts(1));
        pool.setArrears(1, 3);
        Check.due("in arrears", 0, pool.counts(1));
        pool.setArrears(1, 0);
        pool.setRules(1, 5, 6);
        Check.due("of rank 2 above 1", 0, pool.counts(1));
    }

    private static void countsOfOneOutOrPaid() {
        Coverpool pool = Pools.ofEachState();
        Check.due("OUT", 96, pool.counts(0));
        Check.due("PAID", 64, pool.counts(2));
        pool.setWorth(2, 10);
        Check.due("PAID, and worth 10", 8, pool.counts(2));
        pool.setArrears(0, 3);
        Check.due("OUT, and in arrears", 0, pool.counts(0));
        pool.addLoan(100, 120, 4, 9);
        Check.due("OUT, and of rank 4", 0, pool.counts(3));
    }

    private static void countsOfNone() {
        for (int loan : NO_LOANS) {
            Check.dueRefused("counts(" + loan + ")", INDEX, Pools::ofEachState, pool -> pool.counts(loan));
        }
    }
}
