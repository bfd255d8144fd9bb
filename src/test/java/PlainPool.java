import java.util.ArrayList;
import java.util.List;
import java.util.TreeSet;

/** The document once more, word by word and without regard to speed: the pool is a set, each test a sum over it. */
final class PlainPool {
    private static final class Item {
        long amount, worth, rank, due, arrears, state;
        boolean putOff;
    }

    private final List<Item> loans = new ArrayList<>();
    private final List<Item> bonds = new ArrayList<>();
    private long month = 0, cash = 0, rankRule = 3, cover = 5, stress = 6;

    private static void argument(boolean fits) {
        if (!fits) {
            throw new IllegalArgumentException();
        }
    }

    private static void state(boolean fits) {
        if (!fits) {
            throw new IllegalStateException();
        }
    }

    private static Item item(List<Item> items, int number) {
        if (number < 0 || number >= items.size()) {
            throw new IndexOutOfBoundsException();
        }
        return items.get(number);
    }

    long addLoan(int amount, int worth, int rank, int due) {
        argument(1 <= amount && amount <= 10000 && 0 <= worth && worth <= 20000);
        argument(1 <= rank && rank <= 5 && month + 1 <= due && due <= 600);
        state(loans.size() < 12);
        Item loan = new Item();
        loan.amount = amount;
        loan.worth = worth;
        loan.rank = rank;
        loan.due = due;
        loans.add(loan);
        return loans.size() - 1;
    }

    long enter(int number) {
        Item loan = item(loans, number);
        state(loan.state == 0);
        loan.state = 1;
        return counts(loan);
    }

    boolean leave(int number) {
        Item loan = item(loans, number);
        state(loan.state == 1);
        TreeSet<Integer> then = inThePool();
        then.remove(number);
        if (!allHold(then)) {
            return false;
        }
        loan.state = 0;
        return true;
    }

    boolean swap(int number, int otherNumber) {
        Item loan = item(loans, number);
        Item other = item(loans, otherNumber);
        state(loan.state == 1 && other.state == 0);
        TreeSet<Integer> then = inThePool();
        then.remove(number);
        then.add(otherNumber);
        for (int test = 0; test < 3; test++) {
            if (lacking(test, inThePool()) == 0 && lacking(test, then) != 0) {
                return false;
            }
        }
        loan.state = 0;
        other.state = 1;
        return true;
    }

    long setArrears(int number, int arrears) {
        Item loan = item(loans, number);
        argument(0 <= arrears && arrears <= 60);
        state(loan.state != 2);
        long before = loan.arrears;
        loan.arrears = arrears;
        return before;
    }

    long setWorth(int number, int worth) {
        Item loan = item(loans, number);
        argument(0 <= worth && worth <= 20000);
        long before = loan.worth;
        loan.worth = worth;
        return before;
    }

    long stateOf(int number) {
        return item(loans, number).state;
    }

    long counts(int number) {
        return counts(item(loans, number));
    }

    private long counts(Item loan) {
        return loan.arrears >= 3 || loan.rank > rankRule ? 0 : Math.min(loan.amount, loan.worth * 80 / 100);
    }

    long addBond(int amount, int due) {
        argument(1 <= amount && amount <= 50000 && month + 1 <= due && due <= 600);
        state(bonds.size() < 5);
        Item bond = new Item();
        bond.amount = amount;
        bond.due = due;
        bonds.add(bond);
        cash += amount;
        return bonds.size() - 1;
    }

    long takeCash(int amount) {
        argument(1 <= amount && amount <= 100000);
        state(cash >= amount);
        cash -= amount;
        return cash;
    }

    void setRules(int rank, int cover, int rate) {
        argument(1 <= rank && rank <= 5 && 0 <= cover && cover <= 50 && 0 <= rate && rate <= 20);
        rankRule = rank;
        this.cover = cover;
        stress = rate;
    }

    long bondState(int number) {
        return item(bonds, number).state;
    }

    long dueOf(int number) {
        return item(bonds, number).due;
    }

    long cash() {
        return cash;
    }

    long debt() {
        return bonds.stream().filter(bond -> bond.state == 0).mapToLong(bond -> bond.amount).sum();
    }

    long substitutes() {
        return Math.min(cash, debt() * 15 / 100);
    }

    long pass(int months) {
        argument(1 <= months && months <= 24);
        for (int i = 0; i < months; i++) {
            month++;
            for (Item loan : loans) {
                if (loan.state == 1 && loan.due <= month && loan.arrears == 0) {
                    loan.state = 2;
                    cash += loan.amount;
                }
            }
            for (Item bond : bonds) {
                if (bond.state == 0 && bond.due <= month) {
                    passDueMonthOf(bond);
                }
            }
        }
        return month;
    }

    private void passDueMonthOf(Item bond) {
        if (cash >= bond.amount) {
            cash -= bond.amount;
            bond.state = 2;
        } else if (bond.putOff) {
            bond.state = 3;
        } else {
            bond.putOff = true;
            bond.due = month + 12;
        }
    }

    boolean holds(int test) {
        return lacking(test) == 0;
    }

    long lacking(int test) {
        argument(0 <= test && test <= 2);
        return lacking(test, inThePool());
    }

    long leastToAddByAll() {
        long best = -1;
        long fewest = 13;
        for (int set = 0; set < 4096; set++) {
            TreeSet<Integer> then = inThePool();
            long size = addOut(then, set);
            if (size >= 0 && size < fewest && allHold(then)) {
                best = set;
                fewest = size;
            }
        }
        return best;
    }

    /** How many loans the set has, or -1 if one of them is none that is OUT. */
    private long addOut(TreeSet<Integer> then, int set) {
        long size = 0;
        for (int number = 0; number < 12; number++) {
            if (set / (1 << number) % 2 == 1) {
                if (number >= loans.size() || loans.get(number).state != 0) {
                    return -1;
                }
                then.add(number);
                size++;
            }
        }
        return size;
    }

    private TreeSet<Integer> inThePool() {
        TreeSet<Integer> pool = new TreeSet<>();
        for (int number = 0; number < loans.size(); number++) {
            if (loans.get(number).state == 1) {
                pool.add(number);
            }
        }
        return pool;
    }

    private boolean allHold(TreeSet<Integer> pool) {
        return lacking(0, pool) == 0 && lacking(1, pool) == 0 && lacking(2, pool) == 0;
    }

    private long lacking(int test, TreeSet<Integer> pool) {
        if (test == 0) {
            long left = 100 * (worthAt(0, pool) + substitutes());
            return Math.max(0, debt() * (100 + cover) - left);
        }
        if (test == 1) {
            return Math.max(lackingAtRate(0, pool), lackingAtRate(stress, pool));
        }
        long most = 0;
        for (int k = 1; k <= 6; k++) {
            most = Math.max(most, lackingUpTo(month + k, pool));
        }
        return most;
    }

    private long lackingAtRate(long rate, TreeSet<Integer> pool) {
        long right = 0;
        for (Item bond : bonds) {
            right += bond.state == 0 ? worth(bond.amount, bond.due, rate) : 0;
        }
        return Math.max(0, right - worthAt(rate, pool) - substitutes());
    }

    private long worthAt(long rate, TreeSet<Integer> pool) {
        return pool.stream().mapToLong(number -> worth(counts(number), loans.get(number).due, rate)).sum();
    }

    private long worth(long sum, long due, long rate) {
        return 1200 * sum / (1200 + rate * (due < month ? 0 : due - month));
    }

    private long lackingUpTo(long then, TreeSet<Integer> pool) {
        long left = cash;
        for (int number : pool) {
            left += loans.get(number).due <= then ? counts(number) : 0;
        }
        long right = 0;
        for (Item bond : bonds) {
            right += bond.state == 0 && bond.due <= then ? bond.amount : 0;
        }
        return Math.max(0, right - left);
    }
}
