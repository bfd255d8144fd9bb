import java.util.Random;
import java.util.function.LongSupplier;

/** Runs of 512 calls with fixed seeds: each answer is the one that the plain writing of the document gives. */
public final class RandomRunsTest {
    private static final int RUNS = 400;
    private static final int CALLS = 512;

    private final Random random;
    private final int run;
    private final Coverpool pool = new Coverpool();
    private final PlainPool plain = new PlainPool();
    private final int size;
    private final int slowness;
    private int month = 0;

    private RandomRunsTest(int run) {
        this.run = run;
        random = new Random(run);
        size = new int[] {20, 300, 10000}[run % 3];
        slowness = 1 + run % 7;
    }

    public static void main(String[] args) {
        for (int run = 0; run < RUNS; run++) {
            RandomRunsTest test = new RandomRunsTest(run);
            for (int call = 0; call < CALLS; call++) {
                test.call();
            }
        }
        Check.end();
    }

    private int upTo(int least, int greatest) {
        return least + random.nextInt(greatest - least + 1);
    }

    /** Mostly what fits, now and then the edges and what is past them. */
    private int within(int least, int greatest) {
        int kind = random.nextInt(40);
        if (kind == 0) {
            return upTo(least - 2, least);
        }
        if (kind == 1) {
            return upTo(greatest, greatest + 2);
        }
        return upTo(least, greatest);
    }

    private int dueMonth() {
        return random.nextInt(3) == 0 ? within(month + 1, 600 + month / 60) : month + within(1, 14);
    }

    private void same(String call, LongSupplier want, LongSupplier got) {
        Check.dueText("run " + run + ": " + call, answer(want), answer(got));
    }

    private static String answer(LongSupplier call) {
        try {
            return Long.toString(call.getAsLong());
        } catch (RuntimeException e) {
            return e.getClass().getSimpleName();
        }
    }

    private static long number(boolean answer) {
        return answer ? 1 : 0;
    }

    private void call() {
        int kind = random.nextInt(100);
        if (kind < 45) {
            changeLoans(kind);
        } else if (kind < 60) {
            changeBonds(kind);
        } else if (kind < 60 + slowness) {
            int months = random.nextInt(4) == 0 ? within(1, 24) : within(1, 3);
            same("pass(" + months + ")", () -> plain.pass(months), () -> pool.pass(months));
            month += months >= 1 && months <= 24 ? months : 0;
        } else if (kind < 90) {
            askTests(kind);
        } else {
            askAll();
        }
    }

    private void changeLoans(int kind) {
        int loan = within(0, 11);
        int other = within(0, 11);
        if (kind < 8) {
            int amount = within(1, size);
            int worth = within(0, Math.min(20000, 2 * size));
            int rank = within(1, 5);
            int due = dueMonth();
            String call = "addLoan(" + amount + ", " + worth + ", " + rank + ", " + due + ")";
            same(call, () -> plain.addLoan(amount, worth, rank, due), () -> pool.addLoan(amount, worth, rank, due));
        } else if (kind < 16) {
            same("enter(" + loan + ")", () -> plain.enter(loan), () -> pool.enter(loan));
        } else if (kind < 23) {
            same("leave(" + loan + ")", () -> number(plain.leave(loan)), () -> number(pool.leave(loan)));
        } else if (kind < 35) {
            String call = "swap(" + loan + ", " + other + ")";
            same(call, () -> number(plain.swap(loan, other)), () -> number(pool.swap(loan, other)));
        } else if (kind < 40) {
            int arrears = random.nextInt(3) == 0 ? within(0, 60) : within(0, 4);
            String call = "setArrears(" + loan + ", " + arrears + ")";
            same(call, () -> plain.setArrears(loan, arrears), () -> pool.setArrears(loan, arrears));
        } else {
            int worth = within(0, random.nextInt(9) == 0 ? 20000 : 2 * size);
            String call = "setWorth(" + loan + ", " + worth + ")";
            same(call, () -> plain.setWorth(loan, worth), () -> pool.setWorth(loan, worth));
        }
    }

    private void changeBonds(int kind) {
        if (kind < 48) {
            int amount = within(1, random.nextInt(9) == 0 ? 50000 : 3 * size);
            int due = dueMonth();
            same("addBond(" + amount + ", " + due + ")", () -> plain.addBond(amount, due), () -> pool.addBond(amount, due));
        } else if (kind < 57) {
            int amount = within(1, random.nextInt(9) == 0 ? 100000 : Math.max(1, Math.min(size, (int) plain.cash())));
            same("takeCash(" + amount + ")", () -> plain.takeCash(amount), () -> pool.takeCash(amount));
        } else {
            int rank = within(1, 5);
            int cover = random.nextInt(2) == 0 ? within(0, 50) : within(0, 5);
            int rate = within(0, 20);
            same("setRules(" + rank + ", " + cover + ", " + rate + ")", () -> {
                plain.setRules(rank, cover, rate);
                return 0;
            }, () -> {
                pool.setRules(rank, cover, rate);
                return 0;
            });
        }
    }

    private void askTests(int kind) {
        int test = within(0, 2);
        if (kind % 2 == 0) {
            same("holds(" + test + ")", () -> number(plain.holds(test)), () -> number(pool.holds(test)));
        } else {
            same("lacking(" + test + ")", () -> plain.lacking(test), () -> pool.lacking(test));
        }
        if (kind % 10 == 0) {
            same("leastToAdd()", plain::leastToAddByAll, pool::leastToAdd);
            same("leastToAddByAll()", plain::leastToAddByAll, pool::leastToAddByAll);
        }
    }

    private void askAll() {
        for (int each = -1; each <= 12; each++) {
            int number = each;
            same("stateOf(" + number + ")", () -> plain.stateOf(number), () -> pool.stateOf(number));
            same("counts(" + number + ")", () -> plain.counts(number), () -> pool.counts(number));
            same("bondState(" + number + ")", () -> plain.bondState(number), () -> pool.bondState(number));
            same("dueOf(" + number + ")", () -> plain.dueOf(number), () -> pool.dueOf(number));
            same("lacking(" + number + ")", () -> plain.lacking(number), () -> pool.lacking(number));
        }
        same("cash()", plain::cash, pool::cash);
        same("debt()", plain::debt, pool::debt);
        same("substitutes()", plain::substitutes, pool::substitutes);
    }
}
