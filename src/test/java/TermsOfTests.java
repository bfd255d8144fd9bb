/** The terms: the tests FACE, WORTH and MONEY. */
final class TermsOfTests {
    private static final int FACE = Coverpool.FACE, WORTH = Coverpool.WORTH, MONEY = Coverpool.MONEY;

    private TermsOfTests() {
    }

    static void tell(Told told) {
        told.section("Terms");
        told.says("The tests.\n- FACE: 100 times what all loans in the pool count for", TermsOfTests::faceTakesLoansInThePool);
        told.says("and the substitutes, together, is at least", TermsOfTests::faceTakesSubstitutes);
        told.says("the debt times the sum of 100 and the cover;", TermsOfTests::faceHoldsFromItsEdgeOn);
        told.says("the cover is 5 percent at first.", TermsOfTests::coverAtFirst);
        told.says("- WORTH: a sum that is due in m months is worth 1200 times it, divided by the sum of 1200 and the rate * m,"
            + " rounded down.", TermsOfTests::worthRoundsEachSumDown);
        told.says("For the rate 0 and for the stress rate,", TermsOfTests::worthIsAskedAtBothRates);
        told.says("6 percent at first:", TermsOfTests::stressRateAtFirst);
        told.says("what all loans in the pool count for, each worth so by its due month,", TermsOfTests::worthTakesLoansInThePool);
        told.says("and the substitutes, together, are at least", TermsOfTests::worthTakesSubstitutesAsTheyAre);
        told.says("the amounts of all open bonds, each worth so by its due month.", TermsOfTests::worthTakesOpenBonds);
        told.says("(A due month that is past counts as 0 months.)", TermsOfTests::aPastDueMonthCountsAs0);
        told.says("- MONEY: for each k from 1 to 6:", TermsOfTests::moneyAsksEachOfSixMonths);
        told.says("the cash", TermsOfTests::moneyTakesCash);
        told.says("and what those loans in the pool count for that are due up to k months from now on, together,",
            TermsOfTests::moneyTakesLoansDueUpToThen);
        told.says("are at least the amounts of all open bonds that are due up to then.", TermsOfTests::moneyTakesBondsDueUpToThen);
    }

    static void dueLacking(String what, Coverpool pool, int test, long want) {
        Check.due(what + ": lacking", want, pool.lacking(test));
        Check.due(what + ": holds", want == 0, pool.holds(test));
    }

    private static void faceTakesLoansInThePool() {
        Coverpool pool = Pools.withDebt(1000, 50);
        pool.addLoan(500, 500, 1, 50);
        dueLacking("a loan that is OUT", pool, FACE, 105000);
        pool.enter(0);
        dueLacking("for what it counts, not its amount", pool, FACE, 65000);
        pool.setArrears(0, 3);
        dueLacking("in arrears", pool, FACE, 105000);
        pool.setArrears(0, 2);
        Pools.addIn(pool, 300, 1);
        dueLacking("two loans", pool, FACE, 35000);
        Coverpool paid = Pools.withDebt(1000, 50);
        Pools.addIn(paid, 300, 1);
        paid.pass(1);
        paid.takeCash(300);
        dueLacking("a loan that is PAID", paid, FACE, 105000);
    }

    private static void faceTakesSubstitutes() {
        Coverpool pool = new Coverpool();
        pool.addBond(1000, 50);
        dueLacking("substitutes 150", pool, FACE, 90000);
        pool.takeCash(851);
        dueLacking("substitutes 149", pool, FACE, 90100);
        Pools.addIn(pool, 901, 50);
        dueLacking("901 and 149 for 1050", pool, FACE, 0);
        pool.takeCash(1);
        dueLacking("901 and 148 for 1050", pool, FACE, 100);
    }

    private static void faceHoldsFromItsEdgeOn() {
        Coverpool pool = Pools.withDebt(100, 50);
        dueLacking("nothing in the pool", pool, FACE, 10500);
        Pools.addIn(pool, 104, 50);
        dueLacking("104 for 105", pool, FACE, 100);
        Pools.addIn(pool, 1, 50);
        dueLacking("105 for 105", pool, FACE, 0);
        Pools.addIn(pool, 1, 50);
        dueLacking("106 for 105", pool, FACE, 0);
        Coverpool odd = Pools.withDebt(33, 50);
        Pools.addIn(odd, 34, 50);
        dueLacking("34 for 34.65", odd, FACE, 65);
        odd.setRules(3, 3, 6);
        dueLacking("34 for 33.99", odd, FACE, 0);
        odd.setRules(3, 4, 6);
        dueLacking("34 for 34.32", odd, FACE, 32);
    }

    private static void coverAtFirst() {
        dueLacking("105 percent of 2000", Pools.withDebt(2000, 50), FACE, 210000);
    }

    private static void worthRoundsEachSumDown() {
        Coverpool pool = Pools.withDebt(1, 1);
        dueLacking("1 is worth 0 but for the rate 0", pool, WORTH, 1);
        Pools.addIn(pool, 1, 600);
        dueLacking("1 is worth 0 as well", pool, WORTH, 0);
        Coverpool many = Pools.withDebt(200, 2);
        for (int loan = 0; loan < 4; loan++) {
            Pools.addIn(many, 50, 2);
        }
        // 240000 / 1212 = 198, but four times 60000 / 1212 = 49
        dueLacking("each loan rounded down", many, WORTH, 2);
        Coverpool bonds = new Coverpool();
        bonds.addBond(50, 2);
        bonds.addBond(50, 2);
        bonds.takeCash(100);
        Pools.addIn(bonds, 100, 10);
        // twice 49 against 120000 / 1260 = 95
        dueLacking("each bond rounded down", bonds, WORTH, 3);
        Coverpool even = Pools.withDebt(201, 1);
        even.setRules(3, 5, 6);
        Pools.addIn(even, 202, 2);
        // 241200 / 1206 = 200 with nothing left, against 242400 / 1212 = 200
        dueLacking("divided evenly", even, WORTH, 0);
        even.setWorth(0, 252);
        // 201 * 1200 / 1212 = 199.0..
        dueLacking("divided unevenly", even, WORTH, 1);
    }

    private static void worthIsAskedAtBothRates() {
        Coverpool early = Pools.withDebt(1000, 100);
        Pools.addIn(early, 999, 10);
        // at 6: 1198800 / 1260 against 1200000 / 1800
        dueLacking("the rate 0 alone fails", early, WORTH, 1);
        Pools.addIn(early, 1, 10);
        dueLacking("both hold", early, WORTH, 0);
        Coverpool late = Pools.withDebt(1000, 10);
        Pools.addIn(late, 1000, 100);
        // 1200000 / 1260 - 1200000 / 1800 = 952 - 666
        dueLacking("the stress rate alone fails", late, WORTH, 286);
        late.setRules(3, 5, 0);
        dueLacking("at the stress rate 0", late, WORTH, 0);
        late.setRules(3, 5, 1);
        // 1200000 / 1210 - 1200000 / 1300 = 991 - 923
        dueLacking("at the stress rate 1", late, WORTH, 68);
        late.setRules(3, 5, 20);
        // 1200000 / 1400 - 1200000 / 3200 = 857 - 375
        dueLacking("at the stress rate 20", late, WORTH, 482);
    }

    private static void stressRateAtFirst() {
        Coverpool pool = Pools.withDebt(10000, 1);
        Pools.addIn(pool, 10000, 201);
        // 12000000 / 1206 - 12000000 / 2406 = 9950 - 4987
        dueLacking("at 6 percent", pool, WORTH, 4963);
        pool.pass(1);
        // put off: 12000000 / 1272 - 12000000 / 2400 = 9433 - 5000
        dueLacking("at 6 percent in month 1", pool, WORTH, 4433);
    }

    private static void worthTakesLoansInThePool() {
        Coverpool pool = Pools.withDebt(1000, 10);
        pool.addLoan(2000, 1000, 1, 10);
        // 1000 against the bond's 952 at the rate 6
        dueLacking("a loan that is OUT", pool, WORTH, 1000);
        pool.enter(0);
        dueLacking("800, not 2000", pool, WORTH, 200);
        Pools.addIn(pool, 200, 34);
        // 960000 / 1260 + 240000 / 1404 = 761 + 170 for 952
        dueLacking("each by its own due month", pool, WORTH, 21);
        pool.pass(4);
        // 960000 / 1236 + 240000 / 1380 = 776 + 173 for 970
        dueLacking("four months later", pool, WORTH, 21);
        pool.setArrears(0, 3);
        dueLacking("in arrears", pool, WORTH, 800);
    }

    private static void worthTakesSubstitutesAsTheyAre() {
        Coverpool pool = new Coverpool();
        pool.addBond(1000, 100);
        Pools.addIn(pool, 850, 100);
        dueLacking("850 and 150", pool, WORTH, 0);
        pool.takeCash(851);
        dueLacking("850 and 149", pool, WORTH, 1);
        Coverpool late = new Coverpool();
        late.addBond(1000, 10);
        late.takeCash(900);
        Pools.addIn(late, 950, 100);
        // 1200000 / 1260 - 1140000 / 1800 - 100 = 952 - 633 - 100
        dueLacking("at the stress rate", late, WORTH, 219);
    }

    private static void worthTakesOpenBonds() {
        Coverpool pool = new Coverpool();
        pool.addBond(500, 1);
        pool.addBond(700, 40);
        pool.addBond(300, 100);
        pool.takeCash(1000);
        Pools.addIn(pool, 1000, 300);
        // 600000 / 1206 + 840000 / 1440 + 360000 / 1800 - 1200000 / 3000 - 225 = 497 + 583 + 200 - 400 - 225
        dueLacking("three bonds", pool, WORTH, 655);
        pool.takeCash(500);
        pool.pass(1);
        // put off to 13: 600000 / 1272 + 840000 / 1434 + 360000 / 1794 - 1200000 / 2994 = 471 + 585 + 200 - 400
        dueLacking("one put off", pool, WORTH, 856);
        pool.pass(12);
        Check.due("one is lost", Coverpool.LOST, pool.bondState(0));
        // 840000 / 1362 + 360000 / 1722 - 1200000 / 2922 = 616 + 209 - 410
        dueLacking("without the lost one", pool, WORTH, 415);
    }

    private static void aPastDueMonthCountsAs0() {
        Coverpool pool = Pools.withDebt(1000, 24);
        Pools.addIn(pool, 900, 1);
        pool.setArrears(0, 1);
        pool.pass(20);
        // the bond at the rate 6: 1200000 / 1224 = 980; without a floor of 0 months the loan would be worth 994
        dueLacking("900 for 1000", pool, WORTH, 100);
        Pools.addIn(pool, 100, 600);
        // 900 and 120000 / 4680 = 25 against 980
        dueLacking("900 and 25 for 980", pool, WORTH, 55);
        Coverpool now = Pools.withDebt(1000, 24);
        Pools.addIn(now, 900, 12);
        now.setArrears(0, 1);
        now.pass(12);
        Pools.addIn(now, 100, 600);
        // 900 and 120000 / 4728 = 25 against 1200000 / 1272 = 943
        dueLacking("due this very month", now, WORTH, 18);
    }

    private static void moneyAsksEachOfSixMonths() {
        for (int due = 1; due <= 8; due++) {
            Coverpool pool = Pools.withDebt(100, due);
            dueLacking("a bond due in " + due, pool, MONEY, due <= 6 ? 100 : 0);
            Pools.addIn(pool, 100, due + 1);
            dueLacking("and a loan due after it", pool, MONEY, due <= 6 ? 100 : 0);
            Pools.addIn(pool, 100, due);
            dueLacking("and a loan due with it", pool, MONEY, 0);
        }
    }

    private static void moneyTakesCash() {
        Coverpool pool = new Coverpool();
        pool.addBond(100, 2);
        dueLacking("all cash, not the substitutes alone", pool, MONEY, 0);
        pool.takeCash(1);
        dueLacking("99 for 100", pool, MONEY, 1);
        Pools.addIn(pool, 1, 2);
        dueLacking("99 and 1 for 100", pool, MONEY, 0);
    }

    private static void moneyTakesLoansDueUpToThen() {
        Coverpool pool = Pools.withDebt(100, 4);
        pool.addLoan(100, 50, 1, 3);
        dueLacking("a loan that is OUT", pool, MONEY, 100);
        pool.enter(0);
        dueLacking("40, not 100", pool, MONEY, 60);
        Pools.addIn(pool, 500, 5);
        dueLacking("due later", pool, MONEY, 60);
        Pools.addIn(pool, 50, 4);
        dueLacking("due in that month", pool, MONEY, 10);
        Pools.addIn(pool, 9, 1);
        dueLacking("due ahead of it", pool, MONEY, 1);
        Pools.addIn(pool, 1, 1);
        dueLacking("all", pool, MONEY, 0);
        Coverpool past = Pools.withDebt(100, 10);
        Pools.addIn(past, 100, 2);
        past.setArrears(0, 2);
        past.pass(9);
        dueLacking("due already, and counting", past, MONEY, 0);
        past.setArrears(0, 3);
        dueLacking("due already, and counting for nothing", past, MONEY, 100);
    }

    private static void moneyTakesBondsDueUpToThen() {
        Coverpool pool = new Coverpool();
        pool.addBond(100, 2);
        pool.addBond(200, 4);
        pool.addBond(50, 6);
        pool.addBond(1000, 7);
        pool.takeCash(1349);
        // 100 in month 2, 300 in months 4 and 5, 350 in month 6
        dueLacking("the sum of three", pool, MONEY, 349);
        pool.pass(1);
        dueLacking("the fourth comes near", pool, MONEY, 1349);
        pool.pass(1);
        Check.due("the first is put off", 14, pool.dueOf(0));
        dueLacking("one put off", pool, MONEY, 1249);
        pool.pass(6);
        dueLacking("all put off, the first comes near", pool, MONEY, 99);
        Coverpool far = Pools.withDebt(100, 37);
        far.pass(24);
        far.pass(6);
        dueLacking("seven months ahead", far, MONEY, 0);
        far.pass(1);
        dueLacking("six months ahead", far, MONEY, 100);
        Coverpool lost = Pools.withDebt(100, 1);
        lost.pass(8);
        dueLacking("a bond put off", lost, MONEY, 100);
        lost.pass(5);
        dueLacking("a lost bond", lost, MONEY, 0);
    }
}
