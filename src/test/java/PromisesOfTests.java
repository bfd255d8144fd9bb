/** Promises 18 to 20: months that pass, whether the tests hold, and what is lacking. */
final class PromisesOfTests {
    private static final Class<IllegalArgumentException> ARGUMENT = IllegalArgumentException.class;
    private static final int FACE = Coverpool.FACE, WORTH = Coverpool.WORTH, MONEY = Coverpool.MONEY;
    private static final int[] NO_TESTS = {Check.LOW, -1, 3, Check.HIGH};

    private PromisesOfTests() {
    }

    static void tell(Told told) {
        told.section("Promise 18: pass");
        told.says("Lets months pass.", PromisesOfTests::passPasses);
        told.says("- `months`: 1 to 24", PromisesOfTests::passRange);
        told.says("Returns which month it is then.", PromisesOfTests::passReturns);
        told.says("Throws `IllegalArgumentException` if months is out of range", PromisesOfTests::passOutOfRange);
        told.section("Promise 19: holds");
        told.says("Returns whether a test holds.", PromisesOfTests::holdsReturns);
        told.says("- `test`: FACE, WORTH or MONEY", PromisesOfTests::holdsOfEach);
        told.says("Throws `IllegalArgumentException` if there is no such test", PromisesOfTests::holdsOfNone);
        told.section("Promise 20: lacking");
        told.says("Returns what is lacking for a test:", PromisesOfTests::lackingReturns);
        told.says("for FACE how many hundredths its left side is less than its right one;", PromisesOfTests::lackingFace);
        told.says("for WORTH how much, at the rate where more is lacking;", PromisesOfTests::lackingWorth);
        told.says("for MONEY how much, at the month where most is;", PromisesOfTests::lackingMoney);
        told.says("0 if it holds.", PromisesOfTests::lackingNothing);
        told.says("- `test`: FACE, WORTH or MONEY", PromisesOfTests::lackingOfEach);
        told.says("Throws `IllegalArgumentException` if there is no such test", PromisesOfTests::lackingOfNone);
    }

    // ---- pass

    private static void passPasses() {
        Coverpool pool = new Coverpool();
        for (int loan = 0; loan < 12; loan++) {
            Pools.addIn(pool, 1 << loan, 2 * loan + 1);
        }
        pool.pass(5);
        Check.due("three of twelve loans are paid", 7, pool.cash());
        pool.pass(1);
        Check.due("none in month 6", 7, pool.cash());
        pool.pass(17);
        Check.due("all", 4095, pool.cash());
        pool.pass(24);
        Check.due("and no more", 4095, pool.cash());
    }

    private static void passRange() {
        Check.due("1", 1, new Coverpool().pass(1));
        Check.due("24", 24, new Coverpool().pass(24));
        Check.dueRefused("0", ARGUMENT, Pools::ofEachState, pool -> pool.pass(0));
        Check.dueRefused("25", ARGUMENT, Pools::ofEachState, pool -> pool.pass(25));
    }

    private static void passReturns() {
        Coverpool pool = new Coverpool();
        Check.due("pass(1)", 1, pool.pass(1));
        Check.due("pass(24)", 25, pool.pass(24));
        Check.due("pass(5)", 30, pool.pass(5));
        for (int call = 1; call <= 500; call++) {
            Check.due("pass(24) far on", 30 + 24 * call, pool.pass(24));
        }
    }

    private static void passOutOfRange() {
        for (int months : new int[] {Check.LOW, -1, Check.HIGH}) {
            Check.dueRefused("pass(" + months + ")", ARGUMENT, Pools::ofEachState, pool -> pool.pass(months));
        }
    }

    // ---- holds

    private static void holdsReturns() {
        Coverpool pool = Pools.withPlainDebtAndLoan(100, 6, 100, 6);
        for (int test = FACE; test <= MONEY; test++) {
            Check.due("holds(" + test + ")", true, pool.holds(test));
        }
        pool.setWorth(0, 124);
        for (int test = FACE; test <= MONEY; test++) {
            Check.due("99 for 100: holds(" + test + ")", false, pool.holds(test));
        }
    }

    private static void holdsOfEach() {
        Coverpool face = Pools.withPlainDebtAndLoan(100, 9, 100, 9);
        face.setRules(3, 1, 0);
        dueHold("FACE alone fails", face, false, true, true);
        Coverpool worth = Pools.withPlainDebtAndLoan(100, 9, 100, 30);
        worth.setRules(3, 0, 6);
        dueHold("WORTH alone fails", worth, true, false, true);
        dueHold("MONEY alone fails", Pools.withPlainDebtAndLoan(100, 6, 100, 7), true, true, false);
    }

    private static void dueHold(String what, Coverpool pool, boolean face, boolean worth, boolean money) {
        Check.due(what + ": FACE", face, pool.holds(0));
        Check.due(what + ": WORTH", worth, pool.holds(1));
        Check.due(what + ": MONEY", money, pool.holds(2));
    }

    private static void holdsOfNone() {
        for (int test : NO_TESTS) {
            Check.dueRefused("holds(" + test + ")", ARGUMENT, Pools::ofEachState, pool -> pool.holds(test));
        }
    }

    // ---- lacking

    private static void lackingReturns() {
        Coverpool pool = Pools.withDebt(1000, 6);
        dueLack("nothing in the pool", pool, 105000, 1000, 1000);
        Pools.addIn(pool, 300, 6);
        dueLack("300", pool, 75000, 700, 700);
        pool.pass(5);
        pool.pass(1);
        // the loan is paid, the bond put off to month 18: 12000 / 12.72 - 150
        dueLack("150 of 300 are substitutes", pool, 90000, 850, 0);
        pool.pass(6);
        dueLack("300 in cash", pool, 90000, 850, 700);
    }

    private static void dueLack(String what, Coverpool pool, long face, long worth, long money) {
        Check.due(what + ": FACE", face, pool.lacking(0));
        Check.due(what + ": WORTH", worth, pool.lacking(1));
        Check.due(what + ": MONEY", money, pool.lacking(2));
    }

    private static void lackingFace() {
        Coverpool pool = Pools.withDebt(1, 50);
        Check.due("105", 105, pool.lacking(FACE));
        Pools.addIn(pool, 1, 50);
        Check.due("105 - 100", 5, pool.lacking(FACE));
        pool.setRules(3, 1, 0);
        Check.due("101 - 100", 1, pool.lacking(FACE));
        Coverpool great = greatest();
        Check.due("the most that can lack", 37500000, great.lacking(FACE));
        for (int loan = 0; loan < 12; loan++) {
            Pools.addIn(great, 10000, 600);
        }
        Check.due("with the greatest loans", 25500000, great.lacking(FACE));
    }

    /** The greatest debt, and none of its money left; the cover 50 and the stress rate 20. */
    private static Coverpool greatest() {
        Coverpool pool = new Coverpool();
        for (int bond = 0; bond < 5; bond++) {
            pool.addBond(50000, 6);
        }
        pool.setRules(5, 50, 20);
        pool.takeCash(100000);
        pool.takeCash(100000);
        pool.takeCash(50000);
        return pool;
    }

    private static void lackingWorth() {
        Coverpool early = Pools.withDebt(1000, 100);
        Pools.addIn(early, 100, 10);
        // at the rate 0: 1000 - 100; at 6: 1200000 / 1800 - 120000 / 1260 = 666 - 95
        Check.due("more at the rate 0", 900, early.lacking(WORTH));
        Coverpool late = Pools.withDebt(1000, 10);
        Pools.addIn(late, 900, 100);
        // at the rate 0: 1000 - 900; at 6: 1200000 / 1260 - 1080000 / 1800 = 952 - 600
        Check.due("more at the stress rate", 352, late.lacking(WORTH));
        Coverpool great = greatest();
        Check.due("the most that can lack", 250000, great.lacking(WORTH));
        for (int loan = 0; loan < 12; loan++) {
            Pools.addIn(great, 10000, 600);
        }
        // 5 * (60000000 / 1320) - 12 * (12000000 / 13200)
        Check.due("with the greatest loans", 5 * 45454 - 12 * 909, great.lacking(WORTH));
    }

    private static void lackingMoney() {
        Coverpool pool = new Coverpool();
        pool.addBond(100, 2);
        pool.addBond(200, 4);
        pool.addBond(50, 6);
        pool.takeCash(330);
        Pools.addIn(pool, 30, 2);
        Pools.addIn(pool, 500, 5);
        // month 2: 20 + 30 - 100; month 4: 50 - 300; month 5: 550 - 300
        Check.due("most in month 4", 250, pool.lacking(MONEY));
        pool.setArrears(0, 3);
        Check.due("without the loan of 30", 280, pool.lacking(MONEY));
        Pools.addIn(pool, 260, 4);
        Check.due("most in month 2", 80, pool.lacking(MONEY));
        Pools.addIn(pool, 80, 1);
        Check.due("nothing", 0, pool.lacking(MONEY));
        Check.due("the most that can lack", 250000, greatest().lacking(MONEY));
    }

    private static void lackingNothing() {
        Coverpool pool = Pools.withPlainDebtAndLoan(100, 6, 100, 6);
        dueLack("all just hold", pool, 0, 0, 0);
        Pools.addIn(pool, 10000, 1);
        dueLack("all hold by far", pool, 0, 0, 0);
        dueLack("a new object", new Coverpool(), 0, 0, 0);
    }

    private static void lackingOfEach() {
        Coverpool pool = Pools.withDebt(1000, 6);
        Pools.addIn(pool, 600, 6);
        Pools.addIn(pool, 100, 7);
        dueLack("each another one", pool, 35000, 300, 400);
    }

    private static void lackingOfNone() {
        for (int test : NO_TESTS) {
            Check.dueRefused("lacking(" + test + ")", ARGUMENT, Pools::ofEachState, pool -> pool.lacking(test));
        }
    }
}
