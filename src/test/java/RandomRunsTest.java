import java.util.Random;
import java.util.function.LongSupplier;

/** Short and long runs of calls with fixed seeds: each answer is the one that the plain writing of the document gives. */
public final class RandomRunsTest {
    private static final int RUNS = 1200;
    private static final int SHORT_RUN = 120;
    private static final int LONG_RUN = 512;

    private final Random random;
    private final int run;
    private final Coverpool pool = new Coverpool();
    private final PlainPool plain = new PlainPool();
    private final int size;
    private final int mostMonthsAtOnce;
    private int month = 0;

    private RandomRunsTest(int run) {
        this.run = run;
        random = new Random(run);
        size = new int[] {20, 300, 10000}[run % 3];
        mostMonthsAtOnce = run % 5 == 0 ? 24 : 1 + run % 3;
    }

    public static void main(String[] args) {
        for (int run = 0; run < RUNS; run++) {
            RandomRunsTest test = new RandomRunsTest(run);
            int calls = run % 8 == 0 ? LONG_RUN : SHORT_RUN;
            for (int call = 0; call < calls; call++) {
                test.call();
            }
        }
        Check.end();
    }

    private int upTo(int least, int greatest) {
        return least + random.nextInt(greatest - least + 1);
    }

    /** Mostly what fits, now and then the edges and what is past them. */
    private int within(int least, int greatest) {
        int kind = random.nextInt(40);
        if (kind == 0) {
            return upTo(least - 2, least);
        }
        if (kind == 1) {
            return upTo(greatest, greatest + 2);
        }
        return upTo(least, greatest);
    }

    private int dueMonth() {
        return random.nextInt(3) == 0 ? within(month + 1, 600 + month / 60) : month + within(1, 30);
    }

    /** Mostly a loan of that state, now and then any number. */
    private int oneThatIs(int state) {
        int first = within(0, 11);
        for (int i = 0; i < 12 && random.nextInt(60) > 0; i++) {
            int loan = (first + i) % 12;
            if (answer(() -> plain.stateOf(loan), "PlainPool").equals(Integer.toString(state))) {
                return loan;
            }
        }
        return first;
    }

    private void same(String call, LongSupplier want, LongSupplier got) {
        Check.dueText("run " + run + ": " + call, answer(want, "PlainPool"), answer(got, "Coverpool"));
    }

    private static String answer(LongSupplier call, String thrower) {
        try {
            return Long.toString(call.getAsLong());
        } catch (RuntimeException e) {
            String found = e.getStackTrace()[0].getClassName();
            return e.getClass().getSimpleName() + (found.equals(thrower) ? "" : " by " + found);
        }
    }

    private static long number(boolean answer) {
        return answer ? 1 : 0;
    }

    private void call() {
        int kind = random.nextInt(100);
        if (kind < 45) {
            changeLoans(kind);
        } else if (kind < 60) {
            changeBonds(kind);
        } else if (kind < 63) {
            int months = within(1, mostMonthsAtOnce);
            same("pass(" + months + ")", () -> plain.pass(months), () -> pool.pass(months));
            month += months >= 1 && months <= 24 ? months : 0;
        } else if (kind < 96) {
            askTests(kind);
        } else {
            askAll();
        }
    }

    private void changeLoans(int kind) {
        int loan = kind < 19 ? oneThatIs(Coverpool.OUT) : oneThatIs(Coverpool.IN);
        int other = oneThatIs(Coverpool.OUT);
        if (kind < 11) {
            int amount = within(1, size);
            int worth = within(size / 2, 2 * size);
            int rank = random.nextInt(3) == 0 ? within(1, 5) : 1;
            int due = dueMonth();
            String call = "addLoan(" + amount + ", " + worth + ", " + rank + ", " + due + ")";
            same(call, () -> plain.addLoan(amount, worth, rank, due), () -> pool.addLoan(amount, worth, rank, due));
        } else if (kind < 19) {
            same("enter(" + loan + ")", () -> plain.enter(loan), () -> pool.enter(loan));
        } else if (kind < 26) {
            same("leave(" + loan + ")", () -> number(plain.leave(loan)), () -> number(pool.leave(loan)));
        } else if (kind < 39) {
            String call = "swap(" + loan + ", " + other + ")";
            same(call, () -> number(plain.swap(loan, other)), () -> number(pool.swap(loan, other)));
        } else if (kind < 42) {
            int arrears = random.nextInt(5) == 0 ? within(0, 60) : within(0, 3);
            String call = "setArrears(" + loan + ", " + arrears + ")";
            same(call, () -> plain.setArrears(loan, arrears), () -> pool.setArrears(loan, arrears));
        } else {
            int worth = within(0, random.nextInt(9) == 0 ? 20000 : 4 * Math.min(size, 5000));
            String call = "setWorth(" + loan + ", " + worth + ")";
            same(call, () -> plain.setWorth(loan, worth), () -> pool.setWorth(loan, worth));
        }
    }

    private void changeBonds(int kind) {
        if (kind < 47) {
            int amount = within(1, random.nextInt(30) == 0 ? 50000 : 2 * size);
            int due = dueMonth();
            same("addBond(" + amount + ", " + due + ")", () -> plain.addBond(amount, due), () -> pool.addBond(amount, due));
        } else if (kind < 57) {
            int amount = within(1, random.nextInt(9) == 0 ? 100000 : Math.max(1, Math.min(size, (int) plain.cash())));
            same("takeCash(" + amount + ")", () -> plain.takeCash(amount), () -> pool.takeCash(amount));
        } else {
            int rank = within(1, 5);
            int cover = random.nextInt(2) == 0 ? within(0, 50) : within(0, 5);
            int rate = within(0, 20);
            same("setRules(" + rank + ", " + cover + ", " + rate + ")", () -> {
                plain.setRules(rank, cover, rate);
                return 0;
            }, () -> {
                pool.setRules(rank, cover, rate);
                return 0;
            });
        }
    }

    private void askTests(int kind) {
        int test = within(0, 2);
        if (kind % 2 == 0) {
            same("holds(" + test + ")", () -> number(plain.holds(test)), () -> number(pool.holds(test)));
        } else {
            same("lacking(" + test + ")", () -> plain.lacking(test), () -> pool.lacking(test));
        }
        if (kind % 8 == 0) {
            long least = plain.leastToAddByAll();
            same("leastToAdd()", () -> least, pool::leastToAdd);
            same("leastToAddByAll()", () -> least, pool::leastToAddByAll);
        }
    }

    private void askAll() {
        for (int each = -1; each <= 12; each++) {
            int number = each;
            same("stateOf(" + number + ")", () -> plain.stateOf(number), () -> pool.stateOf(number));
            same("counts(" + number + ")", () -> plain.counts(number), () -> pool.counts(number));
            same("bondState(" + number + ")", () -> plain.bondState(number), () -> pool.bondState(number));
            same("dueOf(" + number + ")", () -> plain.dueOf(number), () -> pool.dueOf(number));
            same("lacking(" + number + ")", () -> plain.lacking(number), () -> pool.lacking(number));
        }
        same("cash()", plain::cash, pool::cash);
        same("debt()", plain::debt, pool::debt);
        same("substitutes()", plain::substitutes, pool::substitutes);
    }
}
