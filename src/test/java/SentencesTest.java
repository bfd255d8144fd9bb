import java.io.IOException;

/** Every sentence of the document's terms and promises, with a test of its own. */
public final class SentencesTest {
    public static void main(String[] args) throws IOException {
        Told told = new Told();
        told.section("What it is");
        told.says("An object is used for at most 512 calls after it has been made;", SentencesTest::fiveHundredTwelveCalls);
        TermsOfThings.tell(told);
        TermsOfTests.tell(told);
        TermsOfMonths.tell(told);
        TermsOfCalls.tell(told);
        PromisesOfLoans.tell(told);
        PromisesOfBonds.tell(told);
        PromisesOfTests.tell(told);
        PromisesOfAdding.tell(told);
        told.dueAllTested();
        Check.end();
    }

    /** The dearest calls, on the fullest object, up to the last one that is promised. */
    private static void fiveHundredTwelveCalls() {
        Coverpool pool = new Coverpool();
        for (int bond = 0; bond < 5; bond++) {
            pool.addBond(50000, 600);
        }
        for (int loan = 0; loan < 12; loan++) {
            Pools.addOut(pool, 10000, 600);
        }
        int calls = 17;
        for (; calls < 511; calls += 2) {
            Check.due("leastToAdd() as call " + (calls + 1), Coverpool.NONE, pool.leastToAdd());
            Check.due("leastToAddByAll() as call " + (calls + 2), Coverpool.NONE, pool.leastToAddByAll());
        }
        Check.due("cash() as call 512", 250000, pool.cash());
        Check.due("calls", 511, calls);
        Coverpool old = new Coverpool();
        for (int call = 1; call <= 512; call++) {
            Check.due("pass(24) as call " + call, 24 * call, old.pass(24));
        }
    }
}
