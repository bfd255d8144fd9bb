/** Objects that several tests begin with. */
final class Pools {
    static final int ENOUGH_WORTH = 20000;

    private Pools() {
    }

    /** A bond whose amount has been taken out, with the rules as they are at first. */
    static Coverpool withDebt(int amount, int due) {
        Coverpool pool = new Coverpool();
        pool.addBond(amount, due);
        pool.takeCash(amount);
        return pool;
    }

    /** The same with the cover and the stress rate 0. */
    static Coverpool withPlainDebt(int amount, int due) {
        Coverpool pool = withDebt(amount, due);
        pool.setRules(3, 0, 0);
        return pool;
    }

    /** The same with a loan in the pool that counts for its amount. */
    static Coverpool withPlainDebtAndLoan(int debt, int dueOfBond, int amount, int dueOfLoan) {
        Coverpool pool = withPlainDebt(debt, dueOfBond);
        addIn(pool, amount, dueOfLoan);
        return pool;
    }

    static int addOut(Coverpool pool, int amount, int due) {
        return pool.addLoan(amount, ENOUGH_WORTH, 1, due);
    }

    static int addIn(Coverpool pool, int amount, int due) {
        int loan = addOut(pool, amount, due);
        pool.enter(loan);
        return loan;
    }

    /** Loans that are OUT, each with its amount and a due month far ahead. */
    static void addAllOut(Coverpool pool, int... amounts) {
        for (int amount : amounts) {
            addOut(pool, amount, 50);
        }
    }

    /** Loan 0 is OUT, loan 1 is IN, loan 2 is PAID; bond 0 is OPEN, bond 1 PAID; it is month 1, and there is cash. */
    static Coverpool ofEachState() {
        Coverpool pool = new Coverpool();
        pool.addLoan(100, 120, 1, 9);
        pool.addLoan(200, 220, 2, 30);
        pool.addLoan(70, 80, 1, 1);
        pool.enter(1);
        pool.enter(2);
        pool.setArrears(1, 1);
        pool.addBond(300, 4);
        pool.addBond(20, 1);
        pool.takeCash(250);
        pool.pass(1);
        return pool;
    }

    static Coverpool withTwelveLoans() {
        Coverpool pool = withDebt(1000, 9);
        for (int loan = 0; loan < 12; loan++) {
            addOut(pool, 100 + loan, 2 + loan);
        }
        return pool;
    }

    static Coverpool withFiveBonds() {
        Coverpool pool = new Coverpool();
        for (int bond = 0; bond < 5; bond++) {
            pool.addBond(100 + bond, 2 + bond);
        }
        pool.takeCash(250);
        return pool;
    }

    /** Month 0 at first, and nothing more than months that pass. */
    static Coverpool inMonth(int month) {
        Coverpool pool = new Coverpool();
        for (int passed = 0; passed < month; passed += 24) {
            pool.pass(Math.min(24, month - passed));
        }
        return pool;
    }
}
