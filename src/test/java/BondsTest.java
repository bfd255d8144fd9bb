/** Promises 10 to 17: bonds, cash and settings. */
public final class BondsTest {
    private static final Class<IllegalArgumentException> ARGUMENT = IllegalArgumentException.class;
    private static final Class<IllegalStateException> STATE = IllegalStateException.class;
    private static final Class<IndexOutOfBoundsException> INDEX = IndexOutOfBoundsException.class;
    private static final int LOW = Integer.MIN_VALUE, HIGH = Integer.MAX_VALUE;

    public static void main(String[] args) {
        addBondNumbersBondsAndBringsCash();
        addBondRefuses();
        addBondCountsDueMonthsFromNow();
        takeCashAnswersTheCashThen();
        takeCashRefuses();
        setRulesTakesTheEdges();
        setRulesRefuses();
        bondStateAndDueOfTellEachState();
        numbersOfNoBondAreRefused();
        debtIsOfOpenBonds();
        substitutesAreTheLesserOne();
        Check.end();
    }

    private static void addBondNumbersBondsAndBringsCash() {
        Coverpool pool = new Coverpool();
        int[] amounts = {1, 50000, 30, 40, 50};
        int sum = 0;
        for (int bond = 0; bond < 5; bond++) {
            sum += amounts[bond];
            int due = bond == 0 ? 1 : 600;
            Check.due("addBond", bond, pool.addBond(amounts[bond], due));
            Check.due("cash()", sum, pool.cash());
            Check.due("debt()", sum, pool.debt());
            Check.due("dueOf", due, pool.dueOf(bond));
            Check.due("bondState", Coverpool.OPEN, pool.bondState(bond));
        }
        Check.dueThrowAndNoChange(pool, "addBond the 6th", STATE, () -> pool.addBond(1, 5));
        Check.dueThrowAndNoChange(pool, "addBond the 6th of 0", ARGUMENT, () -> pool.addBond(0, 5));
        Check.dueThrowAndNoChange(pool, "addBond the 6th due now", ARGUMENT, () -> pool.addBond(1, 0));
        pool.pass(1);
        Check.dueThrow("addBond the 6th beside a paid one", STATE, () -> pool.addBond(1, 5));
    }

    private static void addBondRefuses() {
        Coverpool pool = new Coverpool();
        for (int amount : new int[] {LOW, -1, 0, 50001, HIGH}) {
            Check.dueThrowAndNoChange(pool, "addBond amount " + amount, ARGUMENT, () -> pool.addBond(amount, 5));
        }
        for (int due : new int[] {LOW, -1, 0, 601, HIGH}) {
            Check.dueThrowAndNoChange(pool, "addBond due " + due, ARGUMENT, () -> pool.addBond(5, due));
        }
        Check.due("the first number after refusals", 0, pool.addBond(5, 5));
    }

    private static void addBondCountsDueMonthsFromNow() {
        Coverpool pool = new Coverpool();
        pool.pass(7);
        Check.dueThrowAndNoChange(pool, "addBond due now", ARGUMENT, () -> pool.addBond(5, 7));
        Check.dueThrowAndNoChange(pool, "addBond due 601", ARGUMENT, () -> pool.addBond(5, 601));
        Check.due("addBond due next month", 0, pool.addBond(5, 8));
        Check.due("addBond due 600", 1, pool.addBond(5, 600));
    }

    private static void takeCashAnswersTheCashThen() {
        Coverpool pool = new Coverpool();
        pool.addBond(50000, 600);
        pool.addBond(50000, 600);
        pool.addBond(20, 600);
        Check.due("takeCash(100000)", 20, pool.takeCash(100000));
        Check.due("takeCash(1)", 19, pool.takeCash(1));
        Check.due("cash()", 19, pool.cash());
        Check.due("takeCash of all", 0, pool.takeCash(19));
        Check.due("the debt stays", 100020, pool.debt());
    }

    private static void takeCashRefuses() {
        Coverpool pool = new Coverpool();
        pool.addBond(10, 600);
        for (int amount : new int[] {LOW, -1, 0, 100001, HIGH}) {
            Check.dueThrowAndNoChange(pool, "takeCash " + amount, ARGUMENT, () -> pool.takeCash(amount));
        }
        Check.dueThrowAndNoChange(pool, "takeCash of more than there is", STATE, () -> pool.takeCash(11));
        Check.dueThrowAndNoChange(pool, "takeCash of much more", STATE, () -> pool.takeCash(100000));
    }

    private static void setRulesTakesTheEdges() {
        Coverpool pool = new Coverpool();
        pool.addLoan(1000, 2000, 5, 100);
        pool.enter(0);
        pool.addBond(1000, 100);
        pool.takeCash(1000);
        pool.setRules(5, 0, 0);
        Check.due("counts at rank 5", 1000, pool.counts(0));
        Check.due("FACE at cover 0", 0, pool.lacking(Coverpool.FACE));
        pool.setRules(5, 50, 20);
        Check.due("FACE at cover 50", 50000, pool.lacking(Coverpool.FACE));
        pool.setRules(1, 50, 20);
        Check.due("counts at rank 1", 0, pool.counts(0));
        Check.due("FACE at rank 1 and cover 50", 150000, pool.lacking(Coverpool.FACE));
    }

    private static void setRulesRefuses() {
        Coverpool pool = new Coverpool();
        pool.addLoan(1000, 2000, 4, 100);
        pool.enter(0);
        pool.addBond(1000, 10);
        pool.takeCash(1000);
        for (int rank : new int[] {LOW, -1, 0, 6, HIGH}) {
            Check.dueThrowAndNoChange(pool, "setRules rank " + rank, ARGUMENT, () -> pool.setRules(rank, 7, 9));
        }
        for (int cover : new int[] {LOW, -1, 51, HIGH}) {
            Check.dueThrowAndNoChange(pool, "setRules cover " + cover, ARGUMENT, () -> pool.setRules(4, cover, 9));
        }
        for (int rate : new int[] {LOW, -1, 21, HIGH}) {
            Check.dueThrowAndNoChange(pool, "setRules rate " + rate, ARGUMENT, () -> pool.setRules(4, 7, rate));
        }
    }

    private static void bondStateAndDueOfTellEachState() {
        Coverpool pool = new Coverpool();
        pool.addBond(100, 2);
        pool.addBond(100, 2);
        pool.takeCash(50);
        pool.pass(1);
        Check.due("OPEN ahead of its month", Coverpool.OPEN, pool.bondState(0));
        pool.pass(1);
        Check.due("the first is PAID", Coverpool.PAID, pool.bondState(0));
        Check.due("its due month stays", 2, pool.dueOf(0));
        Check.due("the second is put off", Coverpool.OPEN, pool.bondState(1));
        Check.due("by 12 months", 14, pool.dueOf(1));
        pool.pass(11);
        Check.due("still OPEN", Coverpool.OPEN, pool.bondState(1));
        pool.pass(1);
        Check.due("the second is LOST", Coverpool.LOST, pool.bondState(1));
        Check.due("its due month stays, too", 14, pool.dueOf(1));
        Check.due("cash()", 50, pool.cash());
        Check.due("debt()", 0, pool.debt());
    }

    private static void numbersOfNoBondAreRefused() {
        Coverpool pool = new Coverpool();
        pool.addBond(100, 2);
        for (int bond : new int[] {LOW, -1, 1, 5, HIGH}) {
            Check.dueThrow("bondState(" + bond + ")", INDEX, () -> pool.bondState(bond));
            Check.dueThrow("dueOf(" + bond + ")", INDEX, () -> pool.dueOf(bond));
        }
    }

    private static void debtIsOfOpenBonds() {
        Coverpool pool = new Coverpool();
        pool.addBond(100, 1);
        pool.addBond(30, 2);
        pool.addBond(7, 3);
        Check.due("all are open", 137, pool.debt());
        pool.pass(1);
        Check.due("one is paid", 37, pool.debt());
        pool.takeCash(37);
        pool.pass(2);
        Check.due("two are put off", 37, pool.debt());
        pool.pass(11);
        Check.due("one is lost", 7, pool.debt());
        pool.pass(1);
        Check.due("both are lost", 0, pool.debt());
    }

    private static void substitutesAreTheLesserOne() {
        Coverpool pool = new Coverpool();
        pool.addBond(199, 50);
        Check.due("15 percent of 199, rounded down", 29, pool.substitutes());
        pool.takeCash(170);
        Check.due("cash 29", 29, pool.substitutes());
        pool.takeCash(1);
        Check.due("cash 28", 28, pool.substitutes());
        pool.addBond(1, 1);
        Check.due("15 percent of 200 against cash 29", 29, pool.substitutes());
        pool.addBond(1, 50);
        Check.due("15 percent of 201 against cash 30", 30, pool.substitutes());
        Coverpool least = new Coverpool();
        least.addBond(6, 50);
        Check.due("15 percent of 6", 0, least.substitutes());
        least.addBond(1, 50);
        Check.due("15 percent of 7", 1, least.substitutes());
    }
}
