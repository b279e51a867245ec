/** The boundary cases of 'Loans' and promises 6 to 8; the sentence stands above each test. */
public final class LoansEdgesTest {
    public static void main(String[] args) {
        borrowNumbers();
        borrowAmounts();
        borrowRates();
        borrowSeconds();
        borrowOutOfTheReserve();
        borrowWithABadOne();
        borrowWithThreeOpenOnes();
        twentyLoans();
        twentyClosedLoans();
        dueBeyondTheLastSecond();
        repayNumbers();
        repayAmounts();
        repayAtMostWhatIsOwed();
        repayAtMostWhatThePocketHolds();
        repayAllThatThePocketHolds();
        repayOutOfAnEmptyPocket();
        repayAClosedOne();
        repayABadOne();
        owedInAll();
        loanNumbers();
        loanFacts();
        Check.finish();
    }

    private static MinuteBank two() {
        return Check.bankWith(2, 100000);
    }

    // "IndexOutOfBoundsException if there is no such player"
    private static void borrowNumbers() {
        Check.answers("the first", 0, LoansEdgesTest::two, bank -> bank.borrow(0, 5, 0, 9));
        Check.answers("the last", 0, LoansEdgesTest::two, bank -> bank.borrow(1, 5, 0, 9));
        Check.refusesOutside("borrower", Check.INDEX, 0, 1, LoansEdgesTest::two, (bank, p) -> bank.borrow(p, 5, 0, 9));
        Check.refusesOutside("of none", Check.INDEX, 0, -1, MinuteBank::new, (bank, p) -> bank.borrow(p, 5, 0, 9));
    }

    // "IllegalArgumentException if n is not 1 to 5000"
    private static void borrowAmounts() {
        Check.answers("1", 0, LoansEdgesTest::two, bank -> bank.borrow(1, 1, 0, 9));
        Check.answers("5000", 0, LoansEdgesTest::two, bank -> bank.borrow(1, 5000, 0, 9));
        Check.refusesOutside("n", Check.ARGUMENT, 1, 5000, LoansEdgesTest::two, (bank, n) -> bank.borrow(1, n, 0, 9));
        MinuteBank bank = two();
        bank.borrow(0, 1, 0, 9);
        bank.borrow(1, 5000, 0, 9);
        Check.loan("the least", bank, 0, 0, 1, 0, 9, 0);
        Check.loan("the most", bank, 1, 1, 5000, 0, 9, 0);
        Check.same("the least pocket", 1, bank.player(0, 1));
        Check.same("the greatest pocket", 5000, bank.player(1, 1));
    }

    // "rate is not 0 to 100"
    private static void borrowRates() {
        Check.answers("0", 0, LoansEdgesTest::two, bank -> bank.borrow(1, 5, 0, 9));
        Check.answers("100", 0, LoansEdgesTest::two, bank -> bank.borrow(1, 5, 100, 9));
        Check.refusesOutside("rate", Check.ARGUMENT, 0, 100, LoansEdgesTest::two, (bank, r) -> bank.borrow(1, 5, r, 9));
        MinuteBank bank = two();
        bank.borrow(0, 5, 0, 9);
        bank.borrow(0, 5, 100, 9);
        Check.same("the least", 0, bank.loan(0, 2));
        Check.same("the greatest", 100, bank.loan(1, 2));
    }

    // "or seconds is not 1 to 3600"
    private static void borrowSeconds() {
        Check.answers("1", 0, LoansEdgesTest::two, bank -> bank.borrow(1, 5, 0, 1));
        Check.answers("3600", 0, LoansEdgesTest::two, bank -> bank.borrow(1, 5, 0, 3600));
        Check.refusesOutside("in", Check.ARGUMENT, 1, 3600, LoansEdgesTest::two, (bank, s) -> bank.borrow(1, 5, 0, s));
        MinuteBank bank = two();
        bank.pass(7);
        bank.borrow(0, 5, 0, 1);
        bank.borrow(0, 5, 0, 3600);
        Check.same("the soonest", 8, bank.loan(0, 3));
        Check.same("the latest", 3607, bank.loan(1, 3));
    }

    // "IllegalStateException if the reserve does not hold so many"
    private static void borrowOutOfTheReserve() {
        Check.answers("5000 of 5000", 0, () -> Check.bankWithReserve(5000, 2), bank -> bank.borrow(1, 5000, 0, 9));
        Check.refuses("5000 of 4999", Check.STATE, () -> Check.bankWithReserve(4999, 2), bank -> bank.borrow(1, 5000, 0, 9));
        Check.answers("1 of 1", 0, () -> Check.bankWithReserve(1, 2), bank -> bank.borrow(1, 1, 0, 9));
        Check.refuses("2 of 1", Check.STATE, () -> Check.bankWithReserve(1, 2), bank -> bank.borrow(1, 2, 0, 9));
        Check.refuses("1 of 0", Check.STATE, () -> Check.bankWithReserve(0, 2), bank -> bank.borrow(1, 1, 0, 9));
        MinuteBank bank = Check.bankWithReserve(5000, 2);
        bank.borrow(1, 5000, 0, 9);
        Check.same("the reserve is empty", 0, bank.count(6));
        Check.same("all are out", 100000, bank.count(9));
    }

    /** Player 0 has a bad loan, of which 10 are owed, and an empty pocket. */
    private static MinuteBank withABadOne() {
        MinuteBank bank = two();
        bank.borrow(0, 10, 100, 5);
        Check.lose(bank, 0, 1, 10);
        bank.pass(5);
        return bank;
    }

    // "the player has a bad loan"
    private static void borrowWithABadOne() {
        Check.refuses("with a bad one", Check.STATE, LoansEdgesTest::withABadOne, bank -> bank.borrow(0, 1, 0, 1));
        Check.answers("another has it", 1, LoansEdgesTest::withABadOne, bank -> bank.borrow(1, 1, 0, 1));
        Check.Start nearlyPaid = () -> {
            MinuteBank bank = withABadOne();
            bank.buy(0, 10);
            bank.repay(0, 9);
            return bank;
        };
        Check.refuses("1 is owed still", Check.STATE, nearlyPaid, bank -> bank.borrow(0, 1, 0, 1));
        Check.Start paid = () -> {
            MinuteBank bank = nearlyPaid.make();
            bank.repay(0, 1);
            return bank;
        };
        Check.answers("none is owed", 1, paid, bank -> bank.borrow(0, 1, 0, 1));
    }

    private static MinuteBank withOpenOnes(int loans) {
        MinuteBank bank = two();
        for (int i = 0; i < loans; i++) {
            bank.borrow(0, 10, 0, 20 + i);
        }
        return bank;
    }

    // "or three open ones"
    private static void borrowWithThreeOpenOnes() {
        Check.answers("a third", 2, () -> withOpenOnes(2), bank -> bank.borrow(0, 1, 0, 1));
        Check.refuses("a fourth", Check.STATE, () -> withOpenOnes(3), bank -> bank.borrow(0, 1, 0, 1));
        Check.answers("another has three", 3, () -> withOpenOnes(3), bank -> bank.borrow(1, 1, 0, 1));
        Check.Start onePartPaid = () -> {
            MinuteBank bank = withOpenOnes(3);
            bank.repay(1, 9);
            return bank;
        };
        Check.refuses("1 is owed still", Check.STATE, onePartPaid, bank -> bank.borrow(0, 1, 0, 1));
        Check.Start onePaid = () -> {
            MinuteBank bank = onePartPaid.make();
            bank.repay(1, 1);
            return bank;
        };
        Check.answers("one is paid", 3, onePaid, bank -> bank.borrow(0, 1, 0, 1));
        Check.Start oneDue = () -> {
            MinuteBank bank = withOpenOnes(3);
            bank.pass(20);
            return bank;
        };
        Check.answers("one was due", 3, oneDue, bank -> bank.borrow(0, 1, 0, 1));
        Check.Start justNotDue = () -> {
            MinuteBank bank = withOpenOnes(3);
            bank.pass(19);
            return bank;
        };
        Check.refuses("one is due in 1", Check.STATE, justNotDue, bank -> bank.borrow(0, 1, 0, 1));
    }

    private static MinuteBank withAllOpen(int loans) {
        MinuteBank bank = Check.bankWith(8, 5);
        for (int i = 0; i < loans; i++) {
            bank.borrow(i % 8, 10, 0, 20);
        }
        return bank;
    }

    // "There are at most 20"; "or there are 20 loans"
    private static void twentyLoans() {
        Check.answers("the twentieth", 19, () -> withAllOpen(19), bank -> bank.borrow(7, 1, 0, 1));
        Check.refuses("one more", Check.STATE, () -> withAllOpen(20), bank -> bank.borrow(7, 1, 0, 1));
        MinuteBank bank = withAllOpen(20);
        Check.same("loans", 20, bank.count(4));
        Check.same("open loans", 20, bank.count(5));
        Check.loan("the first", bank, 0, 0, 10, 0, 20, 0);
        Check.loan("the last", bank, 19, 3, 10, 0, 20, 0);
    }

    // "(those that are closed, too)"
    private static void twentyClosedLoans() {
        Check.Start closed = () -> {
            MinuteBank bank = withAllOpen(20);
            bank.pass(20);
            return bank;
        };
        Check.same("none is open", 0, closed.make().count(5));
        Check.same("all are there", 20, closed.make().count(4));
        Check.refuses("one more", Check.STATE, closed, bank -> bank.borrow(0, 1, 0, 1));
    }

    private static MinuteBank atTheLastSecond() {
        MinuteBank bank = two();
        Check.passMany(bank, 20000);
        return bank;
    }

    // "in how many seconds it is due": pass has a last second, borrow has none
    private static void dueBeyondTheLastSecond() {
        Check.answers("at the last second", 0, LoansEdgesTest::atTheLastSecond, bank -> bank.borrow(0, 5, 0, 3600));
        MinuteBank bank = atTheLastSecond();
        bank.borrow(0, 5, 0, 3600);
        Check.loan("it is open", bank, 0, 0, 5, 0, 23600, 0);
    }

    private static MinuteBank withTwoLoans() {
        MinuteBank bank = two();
        bank.borrow(0, 10, 0, 100);
        bank.borrow(1, 10, 0, 100);
        return bank;
    }

    // "IndexOutOfBoundsException if there is no such loan"
    private static void repayNumbers() {
        Check.answers("the first", 4, LoansEdgesTest::withTwoLoans, bank -> bank.repay(0, 4));
        Check.answers("the last", 4, LoansEdgesTest::withTwoLoans, bank -> bank.repay(1, 4));
        Check.refusesOutside("loan", Check.INDEX, 0, 1, LoansEdgesTest::withTwoLoans, (bank, l) -> bank.repay(l, 4));
        Check.refusesOutside("of none", Check.INDEX, 0, -1, LoansEdgesTest::two, (bank, l) -> bank.repay(l, 4));
        Check.answers("the last of 20", 4, () -> withAllOpen(20), bank -> bank.repay(19, 4));
        Check.refusesOutside("of 20", Check.INDEX, 0, 19, () -> withAllOpen(20), (bank, l) -> bank.repay(l, 4));
    }

    // "IllegalArgumentException if n is not 1 to 1000000"
    private static void repayAmounts() {
        Check.answers("1", 1, LoansEdgesTest::withTwoLoans, bank -> bank.repay(0, 1));
        Check.answers("1000000", 10, LoansEdgesTest::withTwoLoans, bank -> bank.repay(0, 1000000));
        Check.refusesOutside("n", Check.ARGUMENT, 1, 1000000, LoansEdgesTest::withTwoLoans, (bank, n) -> bank.repay(0, n));
    }

    /** 100 are owed; the pocket holds as many as this. */
    private static MinuteBank owing100(int pocket) {
        MinuteBank bank = two();
        bank.borrow(0, 100, 0, 3600);
        if (pocket > 100) {
            bank.buy(0, pocket - 100);
        } else if (pocket < 100) {
            Check.lose(bank, 0, 1, 100 - pocket);
        }
        return bank;
    }

    private static void repays(int paid, int pocket, int n) {
        String what = n + " of 100 out of " + pocket;
        Check.answers(what, paid, () -> owing100(pocket), bank -> bank.repay(0, n));
        MinuteBank bank = owing100(pocket);
        int out = bank.count(9);
        bank.repay(0, n);
        Check.loan(what, bank, 0, 0, 100 - paid, 0, 3600, paid == 100 ? 1 : 0);
        Check.same(what + ", the pocket", pocket - paid, bank.player(0, 1));
        Check.same(what + ", owed", 100 - paid, bank.player(0, 5));
        Check.same(what + ", open ones", paid == 100 ? 0 : 1, bank.count(5));
        Check.same(what + ", out", out - paid, bank.count(9));
        Check.same(what + ", the reserve", 100000 - out + paid, bank.count(6));
    }

    // "at most what is owed"; "a loan with nothing owed any more is closed"
    private static void repayAtMostWhatIsOwed() {
        repays(99, 150, 99);
        repays(100, 150, 100);
        repays(100, 150, 101);
        repays(100, 101, 1000000);
    }

    // "and what the pocket holds"
    private static void repayAtMostWhatThePocketHolds() {
        repays(39, 40, 39);
        repays(40, 40, 40);
        repays(40, 40, 41);
        repays(99, 99, 100);
        repays(1, 1, 100);
    }

    private static void repayAllThatThePocketHolds() {
        repays(99, 100, 99);
        repays(100, 100, 100);
        repays(100, 100, 101);
    }

    // no exception is named for a pocket with nothing in it: 0 is what it holds
    private static void repayOutOfAnEmptyPocket() {
        repays(0, 0, 1);
        repays(0, 0, 1000000);
    }

    // "IllegalStateException if it is closed"
    private static void repayAClosedOne() {
        Check.Start repaid = () -> {
            MinuteBank bank = owing100(150);
            bank.repay(0, 100);
            return bank;
        };
        Check.refuses("it was paid back", Check.STATE, repaid, bank -> bank.repay(0, 1));
        Check.Start collected = () -> {
            MinuteBank bank = two();
            bank.borrow(0, 100, 0, 5);
            bank.buy(0, 50);
            bank.pass(5);
            return bank;
        };
        Check.refuses("it was due", Check.STATE, collected, bank -> bank.repay(0, 1));
        Check.refuses("the most", Check.STATE, collected, bank -> bank.repay(0, 1000000));
    }

    // "otherwise it is bad (it stays so, and can still be paid back)"; "with nothing owed any more is closed"
    private static void repayABadOne() {
        Check.answers("an empty pocket", 0, LoansEdgesTest::withABadOne, bank -> bank.repay(0, 1));
        MinuteBank bank = withABadOne();
        bank.buy(0, 20);
        bank.pass(1200);
        Check.loan("it stays so, without interest", bank, 0, 0, 10, 100, 5, 2);
        Check.same("the pocket is not taken", 20, bank.player(0, 1));
        Check.same("all but 1", 9, bank.repay(0, 9));
        Check.loan("1 is owed", bank, 0, 0, 1, 100, 5, 2);
        Check.same("bad ones", 1, bank.player(0, 6));
        Check.same("the last one", 1, bank.repay(0, 2));
        Check.loan("none is owed", bank, 0, 0, 0, 100, 5, 1);
        Check.same("no bad ones", 0, bank.player(0, 6));
        Check.same("the rest of the pocket", 10, bank.player(0, 1));
        Check.same("what was sold and lost is out", 20, bank.count(9));
    }

    // "what is owed in all open and bad loans", "bad loans"
    private static void owedInAll() {
        MinuteBank bank = two();
        Check.player("none yet", bank, 0, 100000, 0, 0, 0, 0, 0, 0, 0);
        bank.borrow(0, 100, 0, 50);
        bank.borrow(0, 10, 0, 5);
        bank.borrow(0, 1, 0, 50);
        bank.borrow(1, 1000, 0, 50);
        bank.repay(2, 1);
        Check.lose(bank, 0, 1, 110);
        bank.pass(5);
        Check.player("one is open, one bad, one closed", bank, 0, 100000, 0, 0, 0, 0, 110, 1, 0);
        bank.pass(45);
        Check.player("two are bad", bank, 0, 100000, 0, 0, 0, 0, 110, 2, 0);
        Check.player("the other one's is closed", bank, 1, 100000, 0, 0, 0, 0, 0, 0, 0);
    }

    // "IndexOutOfBoundsException if there is no such loan"
    private static void loanNumbers() {
        Check.refusesOutside("of none", Check.INDEX, 0, -1, LoansEdgesTest::two, (bank, l) -> bank.loan(l, 0));
        Check.refusesOutside("of two", Check.INDEX, 0, 1, LoansEdgesTest::withTwoLoans, (bank, l) -> bank.loan(l, 0));
        Check.refusesOutside("of 20", Check.INDEX, 0, 19, () -> withAllOpen(20), (bank, l) -> bank.loan(l, 0));
        Check.answers("the first", 0, () -> withAllOpen(20), bank -> bank.loan(0, 0));
        Check.answers("the last", 3, () -> withAllOpen(20), bank -> bank.loan(19, 0));
    }

    // "or what is not 0 to 4"
    private static void loanFacts() {
        Check.answers("what 0", 1, LoansEdgesTest::withTwoLoans, bank -> bank.loan(1, 0));
        Check.answers("what 4", 2, LoansEdgesTest::withABadOne, bank -> bank.loan(0, 4));
        Check.refusesOutside("what", Check.INDEX, 0, 4, LoansEdgesTest::withTwoLoans, (bank, w) -> bank.loan(1, w));
    }
}
