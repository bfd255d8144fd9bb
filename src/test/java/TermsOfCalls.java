/** The terms: which exception comes first, that a call that throws changes nothing, and the constants. */
final class TermsOfCalls {
    private static final Class<IllegalArgumentException> ARGUMENT = IllegalArgumentException.class;
    private static final Class<IllegalStateException> STATE = IllegalStateException.class;
    private static final Class<IndexOutOfBoundsException> INDEX = IndexOutOfBoundsException.class;

    private TermsOfCalls() {
    }

    static void tell(Told told) {
        told.section("Terms");
        told.says("If several exceptions apply to a call, the one that its throws clause names first is thrown;",
            TermsOfCalls::theFirstOfSeveral);
        told.says("a call that throws changes nothing.", TermsOfCalls::throwingChangesNothing);
        told.says("The constants: `NONE = -1`: There is none.", TermsOfCalls::none);
        told.says("`FACE = 0, WORTH = 1, MONEY = 2`: Tests.", TermsOfCalls::tests);
        told.says("`OUT = 0, IN = 1, PAID = 2`: States of loans.", TermsOfCalls::statesOfLoans);
        told.says("`OPEN = 0, LOST = 3`: States of bonds; paid ones are PAID.", TermsOfCalls::statesOfBonds);
    }

    private static void theFirstOfSeveral() {
        Coverpool loans = Pools.withTwelveLoans();
        Check.dueThrow("addLoan: amount and the 13th", ARGUMENT, () -> loans.addLoan(0, 5, 1, 5));
        Check.dueThrow("addLoan: worth and the 13th", ARGUMENT, () -> loans.addLoan(5, -1, 1, 5));
        Check.dueThrow("addLoan: rank and the 13th", ARGUMENT, () -> loans.addLoan(5, 5, 6, 5));
        Check.dueThrow("addLoan: due and the 13th", ARGUMENT, () -> loans.addLoan(5, 5, 1, 0));
        Coverpool bonds = Pools.withFiveBonds();
        Check.dueThrow("addBond: amount and the 6th", ARGUMENT, () -> bonds.addBond(0, 5));
        Check.dueThrow("addBond: due and the 6th", ARGUMENT, () -> bonds.addBond(5, 0));
        Check.dueThrow("takeCash: out of range and more than there is", ARGUMENT, () -> bonds.takeCash(100001));
        Coverpool pool = Pools.ofEachState();
        Check.dueThrow("swap: no such loan, and the other is not OUT", INDEX, () -> pool.swap(3, 1));
        Check.dueThrow("swap: no such other one, and the loan is not IN", INDEX, () -> pool.swap(0, 3));
        Check.dueThrow("swap: neither", INDEX, () -> pool.swap(-1, 3));
        Check.dueThrow("setArrears: no such loan and arrears", INDEX, () -> pool.setArrears(3, 61));
        Check.dueThrow("setArrears: arrears of a paid one", ARGUMENT, () -> pool.setArrears(2, -1));
        Check.dueThrow("setWorth: no such loan and worth", INDEX, () -> pool.setWorth(3, 20001));
    }

    private static void throwingChangesNothing() {
        Check.dueRefused("addLoan of 0", ARGUMENT, Pools::ofEachState, pool -> pool.addLoan(0, 5, 1, 5));
        Check.dueRefused("addLoan the 13th", STATE, Pools::withTwelveLoans, pool -> pool.addLoan(5, 5, 1, 5));
        Check.dueRefused("enter none", INDEX, Pools::ofEachState, pool -> pool.enter(3));
        Check.dueRefused("enter one that is IN", STATE, Pools::ofEachState, pool -> pool.enter(1));
        Check.dueRefused("leave none", INDEX, Pools::ofEachState, pool -> pool.leave(3));
        Check.dueRefused("leave one that is OUT", STATE, Pools::ofEachState, pool -> pool.leave(0));
        Check.dueRefused("swap none", INDEX, Pools::ofEachState, pool -> pool.swap(3, 0));
        Check.dueRefused("swap for none", INDEX, Pools::ofEachState, pool -> pool.swap(1, 3));
        Check.dueRefused("swap for a paid one", STATE, Pools::ofEachState, pool -> pool.swap(1, 2));
        Check.dueRefused("swap a paid one", STATE, Pools::ofEachState, pool -> pool.swap(2, 0));
        Check.dueRefused("setArrears of none", INDEX, Pools::ofEachState, pool -> pool.setArrears(3, 5));
        Check.dueRefused("setArrears 61", ARGUMENT, Pools::ofEachState, pool -> pool.setArrears(1, 61));
        Check.dueRefused("setArrears of a paid one", STATE, Pools::ofEachState, pool -> pool.setArrears(2, 5));
        Check.dueRefused("setWorth of none", INDEX, Pools::ofEachState, pool -> pool.setWorth(3, 5));
        Check.dueRefused("setWorth -1", ARGUMENT, Pools::ofEachState, pool -> pool.setWorth(1, -1));
        Check.dueRefused("stateOf none", INDEX, Pools::ofEachState, pool -> pool.stateOf(3));
        Check.dueRefused("counts of none", INDEX, Pools::ofEachState, pool -> pool.counts(3));
        Check.dueRefused("addBond of 0", ARGUMENT, Pools::ofEachState, pool -> pool.addBond(0, 5));
        Check.dueRefused("addBond the 6th", STATE, Pools::withFiveBonds, pool -> pool.addBond(5, 5));
        Check.dueRefused("takeCash 0", ARGUMENT, Pools::ofEachState, pool -> pool.takeCash(0));
        Check.dueRefused("takeCash too much", STATE, Pools::ofEachState, pool -> pool.takeCash(121));
        Check.dueRefused("setRules rank 0", ARGUMENT, Pools::ofEachState, pool -> pool.setRules(0, 7, 9));
        Check.dueRefused("setRules cover 51", ARGUMENT, Pools::ofEachState, pool -> pool.setRules(1, 51, 9));
        Check.dueRefused("setRules rate 21", ARGUMENT, Pools::ofEachState, pool -> pool.setRules(1, 7, 21));
        Check.dueRefused("bondState of none", INDEX, Pools::ofEachState, pool -> pool.bondState(2));
        Check.dueRefused("dueOf none", INDEX, Pools::ofEachState, pool -> pool.dueOf(2));
        Check.dueRefused("pass 25", ARGUMENT, Pools::ofEachState, pool -> pool.pass(25));
        Check.dueRefused("holds(3)", ARGUMENT, Pools::ofEachState, pool -> pool.holds(3));
        Check.dueRefused("lacking(3)", ARGUMENT, Pools::ofEachState, pool -> pool.lacking(3));
    }

    private static void none() {
        Check.due("NONE", -1, Coverpool.NONE);
        Check.due("leastToAdd() without a set", -1, Pools.withDebt(100, 50).leastToAdd());
    }

    private static void tests() {
        Check.due("FACE", 0, Coverpool.FACE);
        Check.due("WORTH", 1, Coverpool.WORTH);
        Check.due("MONEY", 2, Coverpool.MONEY);
        Coverpool pool = Pools.withDebt(100, 50);
        Check.due("lacking(0)", 10500, pool.lacking(0));
        Check.due("lacking(1)", 100, pool.lacking(1));
        Check.due("lacking(2)", 0, pool.lacking(2));
    }

    private static void statesOfLoans() {
        Check.due("OUT", 0, Coverpool.OUT);
        Check.due("IN", 1, Coverpool.IN);
        Check.due("PAID", 2, Coverpool.PAID);
        Coverpool pool = Pools.ofEachState();
        for (int state = 0; state <= 2; state++) {
            Check.due("stateOf(" + state + ")", state, pool.stateOf(state));
        }
    }

    private static void statesOfBonds() {
        Check.due("OPEN", 0, Coverpool.OPEN);
        Check.due("LOST", 3, Coverpool.LOST);
        Coverpool pool = Pools.ofEachState();
        Check.due("an open one", 0, pool.bondState(0));
        Check.due("a paid one", 2, pool.bondState(1));
        Coverpool lost = Pools.withDebt(100, 1);
        lost.pass(13);
        Check.due("a lost one", 3, lost.bondState(0));
    }
}
