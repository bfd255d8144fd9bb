/** Promises 21 and 22: the least loans to add, found in two ways. */
final class PromisesOfAdding {
    private PromisesOfAdding() {
    }

    static void tell(Told told) {
        told.section("Promise 21: leastToAdd");
        told.says("Returns the least loans to add:", PromisesOfAdding::addsNothingItself);
        told.says("of the sets of loans that are OUT,", PromisesOfAdding::onlyLoansThatAreOut);
        told.says("by whose entering all tests would hold,", PromisesOfAdding::allTestsMustHold);
        told.says("that with the fewest loans;", PromisesOfAdding::fewestLoansFirst);
        told.says("of several the least one as a sum of 2 to the power of its loans.", PromisesOfAdding::theLeastSumOfSeveral);
        told.says("Found by adding one loan after the other, and leaving off whatever has too many.",
            PromisesOfAdding::upToAllTwelve);
        told.says("Returns that sum;", PromisesOfAdding::theSumOfEachSingleLoan);
        told.says("0 if all tests hold;", PromisesOfAdding::nothingToAdd);
        told.says("NONE if there is no such set.", PromisesOfAdding::noSuchSet);
        told.section("Promise 22: leastToAddByAll");
        told.says("Returns the same, found by all sets.", PromisesOfAdding::theSameByAllSets);
    }

    private static void dueLeast(String what, Coverpool pool, int want) {
        Check.due(what + ": leastToAdd()", want, pool.leastToAdd());
        Check.due(what + ": leastToAddByAll()", want, pool.leastToAddByAll());
    }

    private static Coverpool withDebtOf100() {
        return Pools.withPlainDebt(100, 50);
    }

    private static void addsNothingItself() {
        Coverpool pool = withDebtOf100();
        Pools.addAllOut(pool, 60, 50);
        Coverpool untouched = withDebtOf100();
        Pools.addAllOut(untouched, 60, 50);
        dueLeast("60 and 50", pool, 3);
        dueLeast("60 and 50 again", pool, 3);
        Check.dueText("all answers after it", Answers.nowAndLater(untouched), Answers.nowAndLater(pool));
    }

    private static void onlyLoansThatAreOut() {
        Coverpool pool = withDebtOf100();
        Pools.addAllOut(pool, 60, 50, 40);
        Pools.addOut(pool, 40, 1);
        pool.enter(0);
        dueLeast("60 is in", pool, 2);
        pool.enter(3);
        dueLeast("40 is in, too", pool, 0);
        pool.pass(1);
        dueLeast("40 is paid, of which 15 are a substitute", pool, 2);
        pool.setWorth(1, 0);
        pool.setWorth(2, 0);
        dueLeast("a paid one can't enter", pool, Coverpool.NONE);
        Coverpool left = withDebtOf100();
        Pools.addAllOut(left, 100, 100, 90);
        left.enter(0);
        left.enter(1);
        left.leave(0);
        left.setWorth(1, 0);
        dueLeast("one that has left", left, 1);
    }

    private static void allTestsMustHold() {
        Coverpool money = Pools.withPlainDebt(100, 3);
        Pools.addAllOut(money, 200);
        dueLeast("MONEY fails", money, Coverpool.NONE);
        Pools.addOut(money, 100, 3);
        dueLeast("MONEY holds", money, 2);
        Pools.addOut(money, 99, 3);
        money.setWorth(1, 1);
        dueLeast("99 for 100", money, Coverpool.NONE);
        Pools.addOut(money, 1, 3);
        dueLeast("MONEY by two", money, 4 | 8);
        money.setRules(3, 5, 0);
        dueLeast("and FACE by a third", money, 1 | 4 | 8);
        Coverpool worth = Pools.withPlainDebt(100, 10);
        Pools.addOut(worth, 100, 500);
        dueLeast("WORTH at the rate 0", worth, 1);
        worth.setRules(3, 0, 6);
        dueLeast("WORTH fails", worth, Coverpool.NONE);
        // 28 and 66 for 95, then 28 and 67
        Pools.addOut(worth, 70, 10);
        dueLeast("WORTH fails with two", worth, Coverpool.NONE);
        worth.setWorth(1, 0);
        Pools.addOut(worth, 71, 10);
        dueLeast("WORTH by two", worth, 1 | 4);
    }

    private static void fewestLoansFirst() {
        Coverpool pool = withDebtOf100();
        Pools.addAllOut(pool, 50, 50, 40, 60, 100);
        dueLeast("one of a greater sum ahead of two", pool, 16);
        pool.setWorth(4, 0);
        dueLeast("two ahead of three", pool, 1 | 2);
        pool.setWorth(1, 0);
        dueLeast("50 and 60", pool, 1 | 8);
        Coverpool many = withDebtOf100();
        Pools.addAllOut(many, 10, 10, 10, 10, 10, 10, 10, 10, 10, 10, 99, 1);
        dueLeast("two ahead of ten", many, 1 | 1024);
        many.setWorth(10, 0);
        dueLeast("ten", many, 1023);
    }

    private static void theLeastSumOfSeveral() {
        Coverpool pool = withDebtOf100();
        Pools.addAllOut(pool, 10, 45, 90, 55, 55, 45);
        dueLeast("0 and 2 of many pairs", pool, 1 | 4);
        pool.setWorth(0, 0);
        dueLeast("1 and 2", pool, 2 | 4);
        pool.setWorth(2, 0);
        dueLeast("1 and 3", pool, 2 | 8);
        pool.setWorth(3, 0);
        dueLeast("1 and 4", pool, 2 | 16);
        Coverpool high = withDebtOf100();
        Pools.addAllOut(high, 10, 70, 70, 90);
        // 0 and 3 is 9, 1 and 2 is 6
        dueLeast("1 and 2 ahead of 0 and 3", high, 6);
        Coverpool three = withDebtOf100();
        Pools.addAllOut(three, 5, 5, 40, 40, 40, 90);
        dueLeast("2 and 5 as the first pair", three, 4 | 32);
        three.setWorth(5, 70);
        // 56 with two of the others is 101, 0, 2 and 5 are 37 as a sum
        dueLeast("2, 3 and 4 ahead of 0, 2 and 5", three, 4 | 8 | 16);
    }

    private static void upToAllTwelve() {
        Coverpool pool = Pools.withPlainDebt(12000, 50);
        for (int loan = 0; loan < 12; loan++) {
            Pools.addAllOut(pool, 1000);
        }
        dueLeast("all", pool, 4095);
        pool.setRules(3, 1, 0);
        dueLeast("not even all", pool, Coverpool.NONE);
        pool.setRules(3, 0, 0);
        pool.enter(11);
        dueLeast("all but the last", pool, 2047);
        pool.enter(0);
        dueLeast("all but the first and the last", pool, 2046);
    }

    private static void theSumOfEachSingleLoan() {
        for (int loan = 0; loan < 12; loan++) {
            Coverpool pool = withDebtOf100();
            for (int each = 0; each < 12; each++) {
                Pools.addAllOut(pool, each == loan ? 100 : 1);
            }
            dueLeast("loan " + loan, pool, 1 << loan);
        }
    }

    private static void nothingToAdd() {
        Coverpool pool = new Coverpool();
        dueLeast("no debt, no loans", pool, 0);
        Pools.addAllOut(pool, 10, 20);
        dueLeast("no debt", pool, 0);
        Coverpool held = Pools.withPlainDebtAndLoan(100, 50, 100, 50);
        Pools.addAllOut(held, 100);
        dueLeast("all just hold", held, 0);
        held.setWorth(0, 124);
        dueLeast("99 for 100", held, 2);
    }

    private static void noSuchSet() {
        Coverpool pool = withDebtOf100();
        dueLeast("no loans", pool, Coverpool.NONE);
        Pools.addAllOut(pool, 10, 20, 69);
        dueLeast("99 for 100", pool, Coverpool.NONE);
        Pools.addAllOut(pool, 1);
        dueLeast("100 for 100", pool, 15);
        pool.enter(3);
        dueLeast("10, 20 and 69 with 1", pool, 7);
        pool.setArrears(3, 3);
        dueLeast("1 counts for nothing", pool, Coverpool.NONE);
    }

    private static void theSameByAllSets() {
        Coverpool pool = withDebtOf100();
        Pools.addAllOut(pool, 100, 100);
        Check.due("first of all calls", 1, pool.leastToAddByAll());
        pool.setWorth(0, 0);
        Check.due("after setWorth", 2, pool.leastToAddByAll());
        pool.setWorth(1, 0);
        Check.due("leastToAdd() after setWorth", Coverpool.NONE, pool.leastToAdd());
        Check.due("the same", Coverpool.NONE, pool.leastToAddByAll());
        pool.setWorth(0, 20000);
        Check.due("leastToAdd() after setWorth again", 1, pool.leastToAdd());
        Check.due("the same again", 1, pool.leastToAddByAll());
        pool.enter(0);
        Check.due("0 if all tests hold", 0, pool.leastToAddByAll());
    }
}
