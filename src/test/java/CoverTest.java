/** Promises 19 and 20: whether the tests hold, and what is lacking. */
public final class CoverTest {
    private static final Class<IllegalArgumentException> ARGUMENT = IllegalArgumentException.class;
    private static final int FACE = Coverpool.FACE, WORTH = Coverpool.WORTH, MONEY = Coverpool.MONEY;

    public static void main(String[] args) {
        noSuchTest();
        faceHoldsFromItsEdgeOn();
        faceCountsSubstitutesAndLoansInThePool();
        worthIsAskedAtBothRates();
        worthRoundsEachSumDown();
        worthTakesSubstitutesAsTheyAre();
        worthOfAPastDueMonthIsTheSumItself();
        moneyAsksEachOfSixMonths();
        moneyIsMostWhereMostIsLacking();
        moneyTakesLoansThatArePastDue();
        testsMindStatesOfLoansAndBonds();
        theGreatestNumbers();
        Check.end();
    }

    private static void dueLacking(String what, Coverpool pool, int test, long want) {
        Check.due(what + ": lacking", want, pool.lacking(test));
        Check.due(what + ": holds", want == 0, pool.holds(test));
    }

    private static Coverpool withDebt(int amount, int due) {
        Coverpool pool = new Coverpool();
        pool.addBond(amount, due);
        pool.takeCash(amount);
        return pool;
    }

    private static void addIn(Coverpool pool, int count, int due) {
        pool.enter(pool.addLoan(count, 20000, 1, due));
    }

    private static void noSuchTest() {
        Coverpool pool = withDebt(100, 5);
        for (int test : new int[] {Integer.MIN_VALUE, -1, 3, Integer.MAX_VALUE}) {
            Check.dueThrowAndNoChange(pool, "holds(" + test + ")", ARGUMENT, () -> pool.holds(test));
            Check.dueThrowAndNoChange(pool, "lacking(" + test + ")", ARGUMENT, () -> pool.lacking(test));
        }
    }

    private static void faceHoldsFromItsEdgeOn() {
        Coverpool pool = withDebt(100, 50);
        dueLacking("nothing in the pool", pool, FACE, 10500);
        addIn(pool, 104, 50);
        dueLacking("104 for 105", pool, FACE, 100);
        addIn(pool, 1, 50);
        dueLacking("105 for 105", pool, FACE, 0);
        addIn(pool, 1, 50);
        dueLacking("106 for 105", pool, FACE, 0);
        Coverpool odd = withDebt(33, 50);
        addIn(odd, 34, 50);
        dueLacking("34 for 34.65", odd, FACE, 65);
        odd.setRules(3, 3, 6);
        dueLacking("34 for 33.99", odd, FACE, 0);
    }

    private static void faceCountsSubstitutesAndLoansInThePool() {
        Coverpool pool = new Coverpool();
        pool.addBond(1000, 50);
        dueLacking("substitutes 150", pool, FACE, 90000);
        pool.takeCash(900);
        dueLacking("substitutes 100", pool, FACE, 95000);
        pool.addLoan(500, 500, 1, 50);
        dueLacking("a loan that is OUT", pool, FACE, 95000);
        pool.enter(0);
        dueLacking("for what it counts", pool, FACE, 55000);
        pool.setArrears(0, 3);
        dueLacking("in arrears", pool, FACE, 95000);
    }

    private static void worthIsAskedAtBothRates() {
        Coverpool early = withDebt(1000, 100);
        addIn(early, 1000, 10);
        dueLacking("loan ahead of the bond", early, WORTH, 0);
        addIn(early, 100, 10);
        early.setArrears(0, 3);
        // at the rate 0: 1000 - 100; at 6: 1200000 / 1800 - 120000 / 1260 = 666 - 95
        dueLacking("more at the rate 0", early, WORTH, 900);
        Coverpool late = withDebt(1000, 10);
        addIn(late, 1000, 100);
        // 1200000 / 1260 - 1200000 / 1800 = 952 - 666
        dueLacking("more at the stress rate", late, WORTH, 286);
        late.setRules(3, 5, 0);
        dueLacking("at the stress rate 0", late, WORTH, 0);
        late.setRules(3, 5, 20);
        // 1200000 / 1400 - 1200000 / 3200 = 857 - 375
        dueLacking("at the stress rate 20", late, WORTH, 482);
    }

    private static void worthRoundsEachSumDown() {
        Coverpool pool = withDebt(1, 1);
        dueLacking("1 is worth 0 but for the rate 0", pool, WORTH, 1);
        addIn(pool, 1, 600);
        dueLacking("1 is worth 0 as well", pool, WORTH, 0);
        Coverpool many = withDebt(200, 2);
        for (int loan = 0; loan < 4; loan++) {
            addIn(many, 50, 2);
        }
        // 240000 / 1212 = 198, but four times 60000 / 1212 = 49
        dueLacking("each loan rounded down", many, WORTH, 2);
        Coverpool bonds = new Coverpool();
        bonds.addBond(50, 2);
        bonds.addBond(50, 2);
        bonds.takeCash(100);
        addIn(bonds, 100, 10);
        // twice 49 against 120000 / 1260 = 95
        dueLacking("each bond rounded down", bonds, WORTH, 3);
    }

    private static void worthTakesSubstitutesAsTheyAre() {
        Coverpool pool = new Coverpool();
        pool.addBond(1000, 100);
        addIn(pool, 850, 100);
        dueLacking("850 and 150", pool, WORTH, 0);
        pool.takeCash(851);
        dueLacking("850 and 149", pool, WORTH, 1);
    }

    private static void worthOfAPastDueMonthIsTheSumItself() {
        Coverpool pool = withDebt(1000, 24);
        addIn(pool, 900, 1);
        pool.setArrears(0, 1);
        pool.pass(20);
        // the bond at the rate 6: 1200000 / 1224 = 980; without a floor of 0 months the loan would be worth 994
        dueLacking("900 for 1000", pool, WORTH, 100);
        addIn(pool, 100, 600);
        // 900 and 120000 / 4680 = 25 against 980
        dueLacking("900 and 25 for 980", pool, WORTH, 55);
    }

    private static void moneyAsksEachOfSixMonths() {
        for (int due = 1; due <= 8; due++) {
            Coverpool pool = withDebt(100, due);
            dueLacking("a bond due in " + due, pool, MONEY, due <= 6 ? 100 : 0);
            addIn(pool, 40, due);
            dueLacking("a loan due with it in " + due, pool, MONEY, due <= 6 ? 60 : 0);
            addIn(pool, 60, due + 1);
            dueLacking("a loan due after it", pool, MONEY, due <= 6 ? 60 : 0);
            addIn(pool, 60, due);
            dueLacking("all of it", pool, MONEY, 0);
        }
        Coverpool far = withDebt(100, 37);
        far.pass(24);
        far.pass(6);
        dueLacking("seven months ahead", far, MONEY, 0);
        far.pass(1);
        dueLacking("six months ahead", far, MONEY, 100);
    }

    private static void moneyIsMostWhereMostIsLacking() {
        Coverpool pool = new Coverpool();
        pool.addBond(100, 2);
        pool.addBond(200, 4);
        pool.addBond(50, 6);
        pool.takeCash(330);
        addIn(pool, 30, 2);
        addIn(pool, 500, 5);
        // month 2: 20 + 30 - 100; month 4: 50 - 300; month 5: 550 - 300
        dueLacking("most in month 4", pool, MONEY, 250);
        pool.setArrears(0, 3);
        dueLacking("without the loan of 30", pool, MONEY, 280);
        addIn(pool, 260, 4);
        dueLacking("most in month 2", pool, MONEY, 80);
        addIn(pool, 80, 1);
        dueLacking("all", pool, MONEY, 0);
    }

    private static void moneyTakesLoansThatArePastDue() {
        Coverpool pool = withDebt(100, 10);
        addIn(pool, 100, 2);
        pool.setArrears(0, 2);
        pool.pass(9);
        dueLacking("a loan past due that counts", pool, MONEY, 0);
        pool.setArrears(0, 3);
        dueLacking("that counts for nothing", pool, MONEY, 100);
    }

    private static void testsMindStatesOfLoansAndBonds() {
        Coverpool pool = withDebt(100, 2);
        addIn(pool, 60, 1);
        addIn(pool, 500, 30);
        pool.pass(1);
        // the loan paid no longer counts, its cash is a substitute up to 15
        pool.setWorth(1, 0);
        dueLacking("FACE", pool, FACE, 9000);
        dueLacking("WORTH", pool, WORTH, 85);
        dueLacking("MONEY", pool, MONEY, 40);
        pool.pass(1);
        dueLacking("FACE of a bond put off", pool, FACE, 9000);
        dueLacking("MONEY of a bond put off", pool, MONEY, 0);
        pool.pass(6);
        dueLacking("MONEY at its new month", pool, MONEY, 40);
        pool.pass(6);
        for (int test = FACE; test <= MONEY; test++) {
            dueLacking("a lost bond", pool, test, 0);
        }
    }

    private static void theGreatestNumbers() {
        Coverpool pool = new Coverpool();
        for (int bond = 0; bond < 5; bond++) {
            pool.addBond(50000, 6);
        }
        pool.setRules(5, 50, 20);
        pool.takeCash(100000);
        pool.takeCash(100000);
        pool.takeCash(50000);
        dueLacking("FACE", pool, FACE, 37500000);
        dueLacking("WORTH", pool, WORTH, 250000);
        dueLacking("MONEY", pool, MONEY, 250000);
        for (int loan = 0; loan < 12; loan++) {
            addIn(pool, 10000, 600);
        }
        dueLacking("FACE with all loans", pool, FACE, 25500000);
        // 5 * (60000000 / 1320) - 12 * (12000000 / 13200)
        dueLacking("WORTH with all loans", pool, WORTH, 5 * 45454 - 12 * 909);
    }
}
