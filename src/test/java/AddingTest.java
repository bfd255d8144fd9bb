/** Promises 21 and 22: the least loans to add. */
public final class AddingTest {
    public static void main(String[] args) {
        nothingToAdd();
        noSuchSet();
        fewestLoansFirst();
        theLeastSumOfSeveral();
        onlyLoansThatAreOut();
        allTestsMustHold();
        allTwelveLoans();
        eachSearchLooksAnew();
        askingChangesNothing();
        Check.end();
    }

    private static void dueLeast(String what, Coverpool pool, int want) {
        Check.due(what + ": leastToAdd()", want, pool.leastToAdd());
        Check.due(what + ": leastToAddByAll()", want, pool.leastToAddByAll());
    }

    private static Coverpool withDebt(int amount, int due) {
        Coverpool pool = new Coverpool();
        pool.setRules(3, 0, 0);
        pool.addBond(amount, due);
        pool.takeCash(amount);
        return pool;
    }

    private static void addOut(Coverpool pool, int... counts) {
        for (int count : counts) {
            pool.addLoan(count, 20000, 1, 50);
        }
    }

    private static void nothingToAdd() {
        Coverpool pool = new Coverpool();
        addOut(pool, 10, 20);
        dueLeast("no debt", pool, 0);
    }

    private static void noSuchSet() {
        Coverpool pool = withDebt(100, 50);
        dueLeast("no loans", pool, Coverpool.NONE);
        addOut(pool, 10, 20, 69);
        dueLeast("99 for 100", pool, Coverpool.NONE);
        addOut(pool, 1);
        dueLeast("100 for 100", pool, 15);
    }

    private static void fewestLoansFirst() {
        Coverpool pool = withDebt(100, 50);
        addOut(pool, 50, 50, 40, 60, 100);
        dueLeast("one greater number ahead of two", pool, 16);
        pool.setWorth(4, 0);
        dueLeast("two ahead of three", pool, 3);
        pool.setWorth(1, 0);
        dueLeast("50 and 60", pool, 1 | 8);
    }

    private static void theLeastSumOfSeveral() {
        Coverpool pool = withDebt(100, 50);
        addOut(pool, 10, 45, 90, 55, 55, 45);
        // 0 and 2, 1 and 3 (10), 2 and any
        dueLeast("0 and 2", pool, 5);
        pool.setWorth(0, 0);
        dueLeast("1 and 2", pool, 6);
        pool.setWorth(2, 0);
        dueLeast("1 and 3", pool, 10);
        pool.setWorth(3, 0);
        dueLeast("1 and 4", pool, 18);
        Coverpool high = withDebt(100, 50);
        addOut(high, 10, 70, 70, 90);
        // 0 and 3 is 9, 1 and 2 is 6
        dueLeast("1 and 2 ahead of 0 and 3", high, 6);
    }

    private static void onlyLoansThatAreOut() {
        Coverpool pool = withDebt(100, 50);
        addOut(pool, 60, 50, 40);
        pool.addLoan(40, 20000, 1, 1);
        pool.enter(0);
        dueLeast("60 is in", pool, 2);
        pool.enter(3);
        dueLeast("40 is in, too", pool, 0);
        pool.pass(1);
        dueLeast("40 is paid, of which 15 are a substitute", pool, 2);
        pool.setWorth(1, 0);
        pool.setWorth(2, 0);
        dueLeast("a paid one can't enter", pool, Coverpool.NONE);
    }

    private static void allTestsMustHold() {
        Coverpool money = withDebt(100, 3);
        addOut(money, 200);
        dueLeast("MONEY fails", money, Coverpool.NONE);
        money.addLoan(100, 20000, 1, 3);
        dueLeast("MONEY holds", money, 2);
        money.addLoan(99, 20000, 1, 3);
        money.setWorth(1, 1);
        dueLeast("99 for 100", money, Coverpool.NONE);
        money.addLoan(1, 20000, 1, 3);
        dueLeast("MONEY by two", money, 4 | 8);
        money.setRules(3, 5, 0);
        dueLeast("and FACE by a third", money, 1 | 4 | 8);
        Coverpool worth = withDebt(100, 10);
        worth.addLoan(100, 20000, 1, 500);
        dueLeast("WORTH at the rate 0", worth, 1);
        worth.setRules(3, 0, 6);
        dueLeast("WORTH fails", worth, Coverpool.NONE);
        // 28 and 66 for 95, then 28 and 67
        worth.addLoan(70, 20000, 1, 10);
        dueLeast("WORTH fails with two", worth, Coverpool.NONE);
        worth.setWorth(1, 0);
        worth.addLoan(71, 20000, 1, 10);
        dueLeast("WORTH by two", worth, 5);
    }

    private static void allTwelveLoans() {
        Coverpool pool = withDebt(12000, 50);
        for (int loan = 0; loan < 12; loan++) {
            addOut(pool, 1000);
        }
        dueLeast("all", pool, 4095);
        pool.setRules(3, 1, 0);
        dueLeast("not even all", pool, Coverpool.NONE);
        pool.setRules(3, 0, 0);
        pool.enter(11);
        dueLeast("all but the last", pool, 2047);
    }

    private static void eachSearchLooksAnew() {
        Coverpool pool = withDebt(100, 50);
        addOut(pool, 100, 100);
        Check.due("leastToAddByAll() first of all", 1, pool.leastToAddByAll());
        pool.setWorth(0, 0);
        Check.due("leastToAddByAll() after setWorth", 2, pool.leastToAddByAll());
        pool.setWorth(1, 0);
        Check.due("leastToAdd() after setWorth", Coverpool.NONE, pool.leastToAdd());
        pool.setWorth(0, 20000);
        Check.due("leastToAdd() after setWorth again", 1, pool.leastToAdd());
    }

    private static void askingChangesNothing() {
        Coverpool pool = withDebt(100, 50);
        addOut(pool, 60, 50);
        String before = Check.allAnswers(pool);
        pool.leastToAdd();
        pool.leastToAddByAll();
        Check.dueText("all answers", before, Check.allAnswers(pool));
        Check.due("a loan stays OUT", Coverpool.OUT, pool.stateOf(0));
    }
}
