/** Promises 10 to 17: bonds, cash and settings. */
final class PromisesOfBonds {
    private static final Class<IllegalArgumentException> ARGUMENT = IllegalArgumentException.class;
    private static final Class<IllegalStateException> STATE = IllegalStateException.class;
    private static final Class<IndexOutOfBoundsException> INDEX = IndexOutOfBoundsException.class;
    private static final int LOW = Check.LOW, HIGH = Check.HIGH;
    private static final int[] NO_BONDS = {LOW, -1, 2, 5, HIGH};

    private PromisesOfBonds() {
    }

    static void tell(Told told) {
        tellAddBond(told);
        tellTakeCash(told);
        tellSetRules(told);
        told.section("Promise 13: bondState");
        told.says("Returns the state of a bond: OPEN, PAID or LOST.", PromisesOfBonds::bondStateReturns);
        told.says("Throws `IndexOutOfBoundsException` if there is no such bond", PromisesOfBonds::bondStateOfNone);
        told.section("Promise 14: dueOf");
        told.says("Returns the due month of a bond.", PromisesOfBonds::dueOfReturns);
        told.says("Throws `IndexOutOfBoundsException` if there is no such bond", PromisesOfBonds::dueOfNone);
        told.section("Promise 15: cash");
        told.says("Returns the cash.", PromisesOfBonds::cashReturns);
        told.section("Promise 16: debt");
        told.says("Returns the debt.", PromisesOfBonds::debtReturns);
        told.section("Promise 17: substitutes");
        told.says("Returns the substitutes.", PromisesOfBonds::substitutesReturns);
    }

    // ---- addBond

    private static void tellAddBond(Told told) {
        told.section("Promise 10: addBond");
        told.says("Adds a bond;", PromisesOfBonds::addBondAdds);
        told.says("its amount comes to the cash.", PromisesOfBonds::addBondBringsCash);
        told.says("- `amount`: 1 to 50000", PromisesOfBonds::addBondAmount);
        told.says("- `due`: the month now + 1 to 600", PromisesOfBonds::addBondDue);
        told.says("Returns its number.", PromisesOfBonds::addBondReturns);
        told.says("Throws `IllegalArgumentException` if amount or due is out of range", PromisesOfBonds::addBondOutOfRange);
        told.says("Throws `IllegalStateException` if there are 5", PromisesOfBonds::addBondTheSixth);
    }

    private static void addBondAdds() {
        Coverpool pool = new Coverpool();
        pool.addBond(100, 9);
        pool.addBond(50, 7);
        Check.due("the first is OPEN", Coverpool.OPEN, pool.bondState(0));
        Check.due("its due month", 9, pool.dueOf(0));
        Check.due("the second is OPEN", Coverpool.OPEN, pool.bondState(1));
        Check.due("its due month", 7, pool.dueOf(1));
        Check.due("the debt", 150, pool.debt());
    }

    private static void addBondBringsCash() {
        Coverpool pool = new Coverpool();
        pool.addBond(100, 9);
        Check.due("the cash", 100, pool.cash());
        pool.addBond(50, 7);
        Check.due("of both", 150, pool.cash());
        pool.takeCash(150);
        pool.addBond(1, 7);
        Check.due("and no more", 1, pool.cash());
    }

    private static void addBondAmount() {
        Coverpool pool = new Coverpool();
        Check.due("1", 0, pool.addBond(1, 5));
        Check.due("50000", 1, pool.addBond(50000, 5));
        Check.due("the debt", 50001, pool.debt());
        Check.dueRefused("0", ARGUMENT, Pools::ofEachState, each -> each.addBond(0, 5));
        Check.dueRefused("50001", ARGUMENT, Pools::ofEachState, each -> each.addBond(50001, 5));
    }

    private static void addBondDue() {
        Coverpool first = new Coverpool();
        Check.due("1 in month 0", 0, first.addBond(5, 1));
        Check.due("600 in month 0", 1, first.addBond(5, 600));
        Check.dueRefused("0 in month 0", ARGUMENT, Coverpool::new, each -> each.addBond(5, 0));
        Check.dueRefused("601 in month 0", ARGUMENT, Coverpool::new, each -> each.addBond(5, 601));
        Coverpool later = Pools.inMonth(7);
        Check.due("8 in month 7", 0, later.addBond(5, 8));
        Check.due("600 in month 7", 1, later.addBond(5, 600));
        Check.dueRefused("7 in month 7", ARGUMENT, () -> Pools.inMonth(7), each -> each.addBond(5, 7));
        Check.dueRefused("601 in month 7", ARGUMENT, () -> Pools.inMonth(7), each -> each.addBond(5, 601));
        Check.due("600 in month 599", 0, Pools.inMonth(599).addBond(5, 600));
        Check.dueRefused("600 in month 600", ARGUMENT, () -> Pools.inMonth(600), each -> each.addBond(5, 600));
        Check.dueRefused("601 in month 600", ARGUMENT, () -> Pools.inMonth(600), each -> each.addBond(5, 601));
    }

    private static void addBondReturns() {
        Coverpool pool = new Coverpool();
        for (int bond = 0; bond < 5; bond++) {
            Check.dueThrow("refused ahead of it", ARGUMENT, () -> pool.addBond(0, 5));
            Check.due("addBond", bond, pool.addBond(5, 5));
        }
    }

    private static void addBondOutOfRange() {
        for (int value : new int[] {LOW, -1, HIGH}) {
            Check.dueRefused("amount " + value, ARGUMENT, Pools::ofEachState, pool -> pool.addBond(value, 5));
            Check.dueRefused("due " + value, ARGUMENT, Pools::ofEachState, pool -> pool.addBond(5, value));
        }
    }

    private static void addBondTheSixth() {
        Coverpool pool = new Coverpool();
        for (int bond = 0; bond < 4; bond++) {
            pool.addBond(5, 5);
        }
        Check.due("the 5th", 4, pool.addBond(5, 5));
        Check.dueRefused("the 6th", STATE, Pools::withFiveBonds, each -> each.addBond(5, 5));
        Check.dueRefused("the 6th beside five paid or lost", STATE, PromisesOfBonds::fiveSettled, each -> each.addBond(5, 50));
    }

    private static Coverpool fiveSettled() {
        Coverpool pool = Pools.withFiveBonds();
        pool.pass(20);
        return pool;
    }

    // ---- takeCash

    private static void tellTakeCash(Told told) {
        told.section("Promise 11: takeCash");
        told.says("Takes cash out.", PromisesOfBonds::takeCashTakes);
        told.says("- `amount`: 1 to 100000", PromisesOfBonds::takeCashAmount);
        told.says("Returns the cash then.", PromisesOfBonds::takeCashReturns);
        told.says("Throws `IllegalArgumentException` if amount is out of range", PromisesOfBonds::takeCashOutOfRange);
        told.says("Throws `IllegalStateException` if there is less", PromisesOfBonds::takeCashOfMoreThanThereIs);
    }

    private static Coverpool rich() {
        Coverpool pool = new Coverpool();
        pool.addBond(50000, 600);
        pool.addBond(50000, 600);
        pool.addBond(20, 600);
        return pool;
    }

    private static void takeCashTakes() {
        Coverpool pool = rich();
        pool.takeCash(30);
        Check.due("the cash", 99990, pool.cash());
        pool.takeCash(90);
        Check.due("and again", 99900, pool.cash());
        Check.due("the debt stays", 100020, pool.debt());
    }

    private static void takeCashAmount() {
        Check.due("100000", 20, rich().takeCash(100000));
        Check.due("1", 100019, rich().takeCash(1));
        Check.dueRefused("100001", ARGUMENT, PromisesOfBonds::rich, pool -> pool.takeCash(100001));
        Check.dueRefused("0", ARGUMENT, PromisesOfBonds::rich, pool -> pool.takeCash(0));
    }

    private static void takeCashReturns() {
        Coverpool pool = rich();
        Check.due("at first", 20, pool.takeCash(100000));
        Check.due("then", 13, pool.takeCash(7));
        Check.due("all of it", 0, pool.takeCash(13));
    }

    private static void takeCashOutOfRange() {
        for (int amount : new int[] {LOW, -1, 0, 100001, HIGH}) {
            Check.dueRefused(amount + " of 120", ARGUMENT, Pools::ofEachState, pool -> pool.takeCash(amount));
            Check.dueRefused(amount + " of none", ARGUMENT, Coverpool::new, pool -> pool.takeCash(amount));
        }
    }

    private static void takeCashOfMoreThanThereIs() {
        Check.due("120 of 120", 0, Pools.ofEachState().takeCash(120));
        Check.dueRefused("121 of 120", STATE, Pools::ofEachState, pool -> pool.takeCash(121));
        Check.dueRefused("100000 of 120", STATE, Pools::ofEachState, pool -> pool.takeCash(100000));
        Check.dueRefused("1 of none", STATE, Coverpool::new, pool -> pool.takeCash(1));
    }

    // ---- setRules

    private static void tellSetRules(Told told) {
        told.section("Promise 12: setRules");
        told.says("Sets the greatest rank that counts, the cover and the stress rate.", PromisesOfBonds::setRulesSets);
        told.says("- `rank`: 1 to 5", PromisesOfBonds::setRulesRank);
        told.says("- `cover`: 0 to 50", PromisesOfBonds::setRulesCover);
        told.says("- `rate`: 0 to 20", PromisesOfBonds::setRulesRate);
        told.says("Throws `IllegalArgumentException` if rank, cover or rate is out of range",
            PromisesOfBonds::setRulesOutOfRange);
    }

    /** A loan of rank 3 that counts for 1200 in month 100, and a debt of 1000 in month 50. */
    private static Coverpool underRules() {
        Coverpool pool = Pools.withDebt(1000, 50);
        pool.addLoan(1200, 2000, 3, 100);
        pool.enter(0);
        return pool;
    }

    private static void setRulesSets() {
        Coverpool pool = underRules();
        pool.setRules(3, 30, 12);
        Check.due("the loan counts", 1200, pool.counts(0));
        Check.due("130000 - 120000", 10000, pool.lacking(Coverpool.FACE));
        // 1200000 / 1800 - 1440000 / 2400 = 666 - 600
        Check.due("at the stress rate 12", 66, pool.lacking(Coverpool.WORTH));
        pool.setRules(2, 5, 6);
        Check.due("the loan counts for nothing", 0, pool.counts(0));
        Check.due("105000", 105000, pool.lacking(Coverpool.FACE));
        pool.setRules(3, 5, 6);
        Check.due("and all again", 0, pool.lacking(Coverpool.FACE));
    }

    private static void setRulesRank() {
        Coverpool pool = underRules();
        pool.addLoan(10, 20, 1, 9);
        pool.addLoan(10, 20, 5, 9);
        pool.setRules(1, 5, 6);
        Check.due("rank 1 up to 1", 10, pool.counts(1));
        Check.due("rank 3 up to 1", 0, pool.counts(0));
        pool.setRules(5, 5, 6);
        Check.due("rank 5 up to 5", 10, pool.counts(2));
        Check.dueRefused("0", ARGUMENT, PromisesOfBonds::underRules, each -> each.setRules(0, 7, 9));
        Check.dueRefused("6", ARGUMENT, PromisesOfBonds::underRules, each -> each.setRules(6, 7, 9));
    }

    private static void setRulesCover() {
        Coverpool pool = underRules();
        pool.setRules(1, 0, 6);
        Check.due("0", 100000, pool.lacking(Coverpool.FACE));
        pool.setRules(1, 50, 6);
        Check.due("50", 150000, pool.lacking(Coverpool.FACE));
        Check.dueRefused("-1", ARGUMENT, PromisesOfBonds::underRules, each -> each.setRules(2, -1, 9));
        Check.dueRefused("51", ARGUMENT, PromisesOfBonds::underRules, each -> each.setRules(2, 51, 9));
    }

    private static void setRulesRate() {
        Coverpool pool = underRules();
        pool.setRules(3, 5, 0);
        Check.due("0", 0, pool.lacking(Coverpool.WORTH));
        pool.setRules(3, 5, 20);
        // 1200000 / 2200 - 1440000 / 3200 = 545 - 450
        Check.due("20", 95, pool.lacking(Coverpool.WORTH));
        Check.dueRefused("-1", ARGUMENT, PromisesOfBonds::underRules, each -> each.setRules(2, 7, -1));
        Check.dueRefused("21", ARGUMENT, PromisesOfBonds::underRules, each -> each.setRules(2, 7, 21));
    }

    private static void setRulesOutOfRange() {
        for (int value : new int[] {LOW, HIGH}) {
            Check.dueRefused("rank " + value, ARGUMENT, PromisesOfBonds::underRules, pool -> pool.setRules(value, 7, 9));
            Check.dueRefused("cover " + value, ARGUMENT, PromisesOfBonds::underRules, pool -> pool.setRules(2, value, 9));
            Check.dueRefused("rate " + value, ARGUMENT, PromisesOfBonds::underRules, pool -> pool.setRules(2, 7, value));
        }
    }

    // ---- what bonds, cash and debt are

    private static void bondStateReturns() {
        Coverpool pool = new Coverpool();
        pool.addBond(100, 2);
        pool.addBond(100, 2);
        pool.takeCash(50);
        pool.pass(1);
        Check.due("OPEN", Coverpool.OPEN, pool.bondState(0));
        pool.pass(1);
        Check.due("PAID", Coverpool.PAID, pool.bondState(0));
        Check.due("put off, and OPEN", Coverpool.OPEN, pool.bondState(1));
        pool.pass(12);
        Check.due("LOST", Coverpool.LOST, pool.bondState(1));
        Check.due("PAID as before", Coverpool.PAID, pool.bondState(0));
    }

    private static void bondStateOfNone() {
        for (int bond : NO_BONDS) {
            Check.dueRefused("bondState(" + bond + ")", INDEX, Pools::ofEachState, pool -> pool.bondState(bond));
        }
        Coverpool full = Pools.withFiveBonds();
        Check.due("bondState(4) of five", Coverpool.OPEN, full.bondState(4));
        Check.dueThrow("bondState(5) of five", INDEX, () -> full.bondState(5));
    }

    private static void dueOfReturns() {
        Coverpool pool = new Coverpool();
        pool.addBond(100, 2);
        pool.addBond(100, 3);
        pool.takeCash(50);
        pool.pass(2);
        Check.due("of a paid one", 2, pool.dueOf(0));
        Check.due("of an open one", 3, pool.dueOf(1));
        pool.pass(1);
        Check.due("of one put off", 15, pool.dueOf(1));
        pool.pass(12);
        Check.due("of a lost one", 15, pool.dueOf(1));
    }

    private static void dueOfNone() {
        for (int bond : NO_BONDS) {
            Check.dueRefused("dueOf(" + bond + ")", INDEX, Pools::ofEachState, pool -> pool.dueOf(bond));
        }
        Coverpool full = Pools.withFiveBonds();
        Check.due("dueOf(4) of five", 6, full.dueOf(4));
        Check.dueThrow("dueOf(5) of five", INDEX, () -> full.dueOf(5));
    }

    private static void cashReturns() {
        Coverpool pool = new Coverpool();
        Check.due("at first", 0, pool.cash());
        pool.addBond(100, 2);
        Check.due("from a bond", 100, pool.cash());
        Pools.addIn(pool, 30, 1);
        Check.due("none for a loan that enters", 100, pool.cash());
        pool.takeCash(29);
        Check.due("taken out", 71, pool.cash());
        pool.pass(1);
        Check.due("from a loan paid", 101, pool.cash());
        pool.pass(1);
        Check.due("for a bond paid", 1, pool.cash());
    }

    private static void debtReturns() {
        Coverpool pool = Pools.withFiveBonds();
        Check.due("of five", 510, pool.debt());
        pool.pass(2);
        Check.due("without one that is paid", 410, pool.debt());
        Coverpool great = new Coverpool();
        for (int bond = 0; bond < 5; bond++) {
            great.addBond(50000, 600);
        }
        Check.due("the greatest one", 250000, great.debt());
        Check.due("of none", 0, new Coverpool().debt());
    }

    private static void substitutesReturns() {
        Coverpool pool = Pools.ofEachState();
        Check.due("15 percent of 300", 45, pool.substitutes());
        pool.takeCash(80);
        Check.due("the cash", 40, pool.substitutes());
        Coverpool great = new Coverpool();
        for (int bond = 0; bond < 5; bond++) {
            great.addBond(50000, 600);
        }
        Check.due("the greatest ones", 37500, great.substitutes());
        Coverpool free = new Coverpool();
        Pools.addIn(free, 30, 1);
        free.pass(1);
        Check.due("with cash and without debt", 0, free.substitutes());
    }
}
