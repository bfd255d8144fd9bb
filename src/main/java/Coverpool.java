import java.util.ArrayList;

/** Tests whether a pool of loans, the cash and the substitutes cover the bonds that stand on them. */
public final class Coverpool {
    public static final int NONE = -1;
    public static final int FACE = 0, WORTH = 1, MONEY = 2;
    public static final int OUT = 0, IN = 1, PAID = 2;
    public static final int OPEN = 0, LOST = 3;

    private static final int MOST_LOANS = 12;
    private static final int MOST_BONDS = 5;
    private static final int GREATEST_AMOUNT_OF_LOAN = 10000;
    private static final int GREATEST_AMOUNT_OF_BOND = 50000;
    private static final int GREATEST_AMOUNT_TAKEN = 100000;
    private static final int GREATEST_WORTH = 20000;
    private static final int GREATEST_RANK = 5;
    private static final int GREATEST_COVER = 50;
    private static final int GREATEST_RATE = 20;
    private static final int GREATEST_ARREARS = 60;
    private static final int LAST_DUE = 600;
    private static final int MOST_MONTHS_AT_ONCE = 24;

    private static final int PERCENT_OF_WORTH = 80;
    private static final int PERCENT_OF_SUBSTITUTES = 15;
    private static final int ARREARS_THAT_COUNT_FOR_NOTHING = 3;
    private static final int MONTHS_PUT_OFF = 12;
    private static final int MONTHS_AHEAD = 6;
    private static final int YEAR_OF_PERCENT = 1200;

    private final ArrayList<Loan> loans = new ArrayList<>();
    private final ArrayList<Bond> bonds = new ArrayList<>();
    private final Sheet sheet = new Sheet();
    private int month = 0;
    private int cash = 0;
    private int rankThatCounts = 3;
    private int cover = 5;
    private int rate = 6;

    public Coverpool() {
    }

    // ---- loans

    public int addLoan(int amount, int worth, int rank, int due) throws IllegalArgumentException, IllegalStateException {
        requireWithin(amount, 1, GREATEST_AMOUNT_OF_LOAN);
        requireWithin(worth, 0, GREATEST_WORTH);
        requireWithin(rank, 1, GREATEST_RANK);
        requireDueAhead(due);
        if (loans.size() >= MOST_LOANS) {
            throw new IllegalStateException("there are 12 loans");
        }
        loans.add(new Loan(amount, worth, rank, due));
        return loans.size() - 1;
    }

    public int enter(int loan) throws IndexOutOfBoundsException, IllegalStateException {
        Loan entering = loanAt(loan);
        requireState(entering, OUT);
        entering.state = IN;
        return countOf(entering);
    }

    public boolean leave(int loan) throws IndexOutOfBoundsException, IllegalStateException {
        Loan leaving = loanAt(loan);
        requireState(leaving, IN);
        fillSheet();
        if (!sheet.allHold(loansThatAre(IN) & ~(1 << loan))) {
            return false;
        }
        leaving.state = OUT;
        return true;
    }

    public boolean swap(int loan, int other) throws IndexOutOfBoundsException, IllegalStateException {
        Loan leaving = loanAt(loan);
        Loan entering = loanAt(other);
        requireState(leaving, IN);
        requireState(entering, OUT);
        int now = loansThatAre(IN);
        int then = (now & ~(1 << loan)) | (1 << other);
        fillSheet();
        for (int test = FACE; test <= MONEY; test++) {
            if (sheet.mostMissing(test, now) == 0 && sheet.mostMissing(test, then) > 0) {
                return false;
            }
        }
        leaving.state = OUT;
        entering.state = IN;
        return true;
    }

    public int setArrears(int loan, int arrears) throws IndexOutOfBoundsException, IllegalArgumentException, IllegalStateException {
        Loan changed = loanAt(loan);
        requireWithin(arrears, 0, GREATEST_ARREARS);
        if (changed.state == PAID) {
            throw new IllegalStateException("the loan is paid");
        }
        int before = changed.arrears;
        changed.arrears = arrears;
        return before;
    }

    public int setWorth(int loan, int worth) throws IndexOutOfBoundsException, IllegalArgumentException {
        Loan changed = loanAt(loan);
        requireWithin(worth, 0, GREATEST_WORTH);
        int before = changed.worth;
        changed.worth = worth;
        return before;
    }

    public int stateOf(int loan) throws IndexOutOfBoundsException {
        return loanAt(loan).state;
    }

    public int counts(int loan) throws IndexOutOfBoundsException {
        return countOf(loanAt(loan));
    }

    // ---- bonds, cash and settings

    public int addBond(int amount, int due) throws IllegalArgumentException, IllegalStateException {
        requireWithin(amount, 1, GREATEST_AMOUNT_OF_BOND);
        requireDueAhead(due);
        if (bonds.size() >= MOST_BONDS) {
            throw new IllegalStateException("there are 5 bonds");
        }
        bonds.add(new Bond(amount, due));
        cash += amount;
        return bonds.size() - 1;
    }

    public int takeCash(int amount) throws IllegalArgumentException, IllegalStateException {
        requireWithin(amount, 1, GREATEST_AMOUNT_TAKEN);
        if (cash < amount) {
            throw new IllegalStateException("there is less cash");
        }
        cash -= amount;
        return cash;
    }

    public void setRules(int rank, int cover, int rate) throws IllegalArgumentException {
        requireWithin(rank, 1, GREATEST_RANK);
        requireWithin(cover, 0, GREATEST_COVER);
        requireWithin(rate, 0, GREATEST_RATE);
        this.rankThatCounts = rank;
        this.cover = cover;
        this.rate = rate;
    }

    public int bondState(int bond) throws IndexOutOfBoundsException {
        return bondAt(bond).state;
    }

    public int dueOf(int bond) throws IndexOutOfBoundsException {
        return bondAt(bond).due;
    }

    public int cash() {
        return cash;
    }

    public int debt() {
        int sum = 0;
        for (int i = 0; i < bonds.size(); i++) {
            Bond bond = bonds.get(i);
            if (bond.state == OPEN) {
                sum += bond.amount;
            }
        }
        return sum;
    }

    public int substitutes() {
        return Math.min(cash, debt() * PERCENT_OF_SUBSTITUTES / 100);
    }

    // ---- months and tests

    public int pass(int months) throws IllegalArgumentException {
        requireWithin(months, 1, MOST_MONTHS_AT_ONCE);
        for (int passed = 0; passed < months; passed++) {
            month++;
            receiveDueLoans();
            settleDueBonds();
        }
        return month;
    }

    public boolean holds(int test) throws IllegalArgumentException {
        return lacking(test) == 0;
    }

    public long lacking(int test) throws IllegalArgumentException {
        requireWithin(test, FACE, MONEY);
        fillSheet();
        return sheet.mostMissing(test, loansThatAre(IN));
    }

    public int leastToAdd() {
        fillSheet();
        return leastWith(sheet, loansThatAre(IN), loansThatAre(OUT), 0, 0, NONE);
    }

    public int leastToAddByAll() {
        fillSheet();
        int pool = loansThatAre(IN);
        int out = loansThatAre(OUT);
        int best = NONE;
        for (int set = 0; set < (1 << loans.size()); set++) {
            if ((set & ~out) == 0 && isLess(set, best) && sheet.allHold(pool | set)) {
                best = set;
            }
        }
        return best;
    }

    // ---- checks of arguments

    private static void requireWithin(int value, int least, int greatest) {
        if (value < least || value > greatest) {
            throw new IllegalArgumentException("out of range");
        }
    }

    private void requireDueAhead(int due) {
        if (due <= month || due > LAST_DUE) {
            throw new IllegalArgumentException("due is out of range");
        }
    }

    private static void requireState(Loan loan, int state) {
        if (loan.state != state) {
            throw new IllegalStateException("the loan is in another state");
        }
    }

    private Loan loanAt(int loan) {
        if (loan < 0 || loan >= loans.size()) {
            throw new IndexOutOfBoundsException("no such loan");
        }
        return loans.get(loan);
    }

    private Bond bondAt(int bond) {
        if (bond < 0 || bond >= bonds.size()) {
            throw new IndexOutOfBoundsException("no such bond");
        }
        return bonds.get(bond);
    }

    // ---- how a month passes

    private void receiveDueLoans() {
        for (int i = 0; i < loans.size(); i++) {
            Loan loan = loans.get(i);
            if (loan.state == IN && loan.due <= month && loan.arrears == 0) {
                loan.state = PAID;
                cash += loan.amount;
            }
        }
    }

    private void settleDueBonds() {
        for (int i = 0; i < bonds.size(); i++) {
            Bond bond = bonds.get(i);
            if (bond.state == OPEN && bond.due <= month) {
                settle(bond);
            }
        }
    }

    private void settle(Bond bond) {
        if (cash >= bond.amount) {
            cash -= bond.amount;
            bond.state = PAID;
        } else if (!bond.wasPutOff) {
            bond.wasPutOff = true;
            bond.due = month + MONTHS_PUT_OFF;
        } else {
            bond.state = LOST;
        }
    }

    // ---- what loans and bonds are worth

    private int countOf(Loan loan) {
        if (loan.arrears >= ARREARS_THAT_COUNT_FOR_NOTHING || loan.rank > rankThatCounts) {
            return 0;
        }
        return Math.min(loan.amount, loan.worth * PERCENT_OF_WORTH / 100);
    }

    private int worthNow(int sum, int due) {
        int divisor = YEAR_OF_PERCENT + rate * Math.max(0, due - month);
        if (divisor <= 0) {
            return 0;
        }
        return YEAR_OF_PERCENT * sum / divisor;
    }

    /** The loans of a state, as a sum of 2 to the power of each. */
    private int loansThatAre(int state) {
        int set = 0;
        for (int i = 0; i < loans.size(); i++) {
            if (loans.get(i).state == state) {
                set |= 1 << i;
            }
        }
        return set;
    }

    // ---- filling the sheet; it is filled anew for each call that asks it, since nearly every call changes it

    private void fillSheet() {
        for (int i = 0; i < loans.size() && i < MOST_LOANS; i++) {
            Loan loan = loans.get(i);
            fillRow(sheet.gives[i], countOf(loan), loan.due);
        }
        startWithCashAndSubstitutes(sheet.needs);
        for (int i = 0; i < bonds.size(); i++) {
            Bond bond = bonds.get(i);
            if (bond.state == OPEN) {
                addBondTo(sheet.needs, bond);
            }
        }
    }

    private void fillRow(int[] row, int count, int due) {
        row[Sheet.BY_FACE] = 100 * count;
        row[Sheet.AT_NO_RATE] = count;
        row[Sheet.AT_STRESS_RATE] = worthNow(count, due);
        for (int ahead = 1; ahead <= MONTHS_AHEAD; ahead++) {
            row[Sheet.BEFORE_MONTHS + ahead] = due <= month + ahead ? count : 0;
        }
    }

    private void startWithCashAndSubstitutes(int[] needs) {
        int substitutes = substitutes();
        needs[Sheet.BY_FACE] = -100 * substitutes;
        needs[Sheet.AT_NO_RATE] = -substitutes;
        needs[Sheet.AT_STRESS_RATE] = -substitutes;
        for (int ahead = 1; ahead <= MONTHS_AHEAD; ahead++) {
            needs[Sheet.BEFORE_MONTHS + ahead] = -cash;
        }
    }

    private void addBondTo(int[] needs, Bond bond) {
        needs[Sheet.BY_FACE] += bond.amount * (100 + cover);
        needs[Sheet.AT_NO_RATE] += bond.amount;
        needs[Sheet.AT_STRESS_RATE] += worthNow(bond.amount, bond.due);
        for (int ahead = 1; ahead <= MONTHS_AHEAD; ahead++) {
            if (bond.due <= month + ahead) {
                needs[Sheet.BEFORE_MONTHS + ahead] += bond.amount;
            }
        }
    }

    // ---- the search for the least loans to add

    /**
     * The least of best and those sets that are chosen and loans of out from next on.
     * It goes one level deeper for each loan chosen, so at most 12.
     */
    private static int leastWith(Sheet sheet, int pool, int out, int next, int chosen, int best) {
        // a set only grows from here on, so nothing above a set that is no less can be less
        if (!isLess(chosen, best)) {
            return best;
        }
        if (sheet.allHold(pool | chosen)) {
            return chosen;
        }
        int least = best;
        for (int loan = next; loan < MOST_LOANS; loan++) {
            if ((out & (1 << loan)) != 0) {
                least = leastWith(sheet, pool, out, loan + 1, chosen | (1 << loan), least);
            }
        }
        return least;
    }

    private static boolean isLess(int set, int best) {
        if (best == NONE) {
            return true;
        }
        int more = Integer.bitCount(set) - Integer.bitCount(best);
        return more < 0 || (more == 0 && set < best);
    }

    private static final class Loan {
        final int amount;
        final int rank;
        final int due;
        int worth;
        int arrears = 0;
        int state = OUT;

        Loan(int amount, int worth, int rank, int due) {
            this.amount = amount;
            this.worth = worth;
            this.rank = rank;
            this.due = due;
        }
    }

    private static final class Bond {
        final int amount;
        int due;
        int state = OPEN;
        boolean wasPutOff = false;

        Bond(int amount, int due) {
            this.amount = amount;
            this.due = due;
        }
    }

    /**
     * The tests as lines of plain sums: a line holds if the loans in the pool give at least what it needs beside
     * cash and substitutes. FACE is one line, WORTH one for each rate, MONEY one for each month ahead.
     */
    private static final class Sheet {
        static final int BY_FACE = 0;
        static final int AT_NO_RATE = 1;
        static final int AT_STRESS_RATE = 2;
        static final int BEFORE_MONTHS = 2;
        static final int LINES = BEFORE_MONTHS + MONTHS_AHEAD + 1;

        final int[] needs = new int[LINES];
        final int[][] gives = new int[MOST_LOANS][LINES];

        boolean allHold(int pool) {
            for (int line = 0; line < LINES; line++) {
                if (missing(line, pool) > 0) {
                    return false;
                }
            }
            return true;
        }

        /** What is missing where most is, among the lines of a test; 0 if it holds. */
        int mostMissing(int test, int pool) {
            int most = 0;
            for (int line = 0; line < LINES; line++) {
                if (testOf(line) == test) {
                    most = Math.max(most, missing(line, pool));
                }
            }
            return most;
        }

        private static int testOf(int line) {
            if (line == BY_FACE) {
                return FACE;
            }
            return line <= AT_STRESS_RATE ? WORTH : MONEY;
        }

        private int missing(int line, int pool) {
            int missing = needs[line];
            for (int loan = 0; loan < MOST_LOANS; loan++) {
                if ((pool & (1 << loan)) != 0) {
                    missing -= gives[loan][line];
                }
            }
            return missing;
        }
    }
}
