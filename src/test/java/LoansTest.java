/** Promises 6 to 8: borrow, repay, loan. */
public final class LoansTest {
    public static void main(String[] args) {
        borrow();
        repay();
        repayOfABadOne();
        Check.finish();
    }

    private static void borrow() {
        MinuteBank bank = Check.bankWith(2, 7);
        bank.pass(10);
        Check.same("first", 0, bank.borrow(1, 1200, 10, 60));
        Check.loan("first", bank, 0, 1, 1200, 10, 70, 0);
        Check.player("borrower", bank, 1, 7, 1200, 0, 0, 0, 1200, 0, 0);
        Check.player("other", bank, 0, 7, 0, 0, 0, 0, 0, 0, 0);
        Check.counts("after it", bank, 10, 2, 0, 0, 1, 1, 98800, 0, 4, 1200, 0);
        Check.same("second", 1, bank.borrow(0, 1, 0, 1));
        Check.loan("second", bank, 1, 0, 1, 0, 11, 0);
        Check.same("open ones", 2, bank.count(5));
    }

    private static void repay() {
        MinuteBank bank = Check.bankWith(2, 1000);
        bank.borrow(0, 100, 0, 3600);
        Check.same("a part", 30, bank.repay(0, 30));
        Check.loan("a part", bank, 0, 0, 70, 0, 3600, 0);
        Check.player("a part", bank, 0, 1000, 70, 0, 0, 0, 70, 0, 0);
        Check.counts("a part", bank, 0, 2, 0, 0, 1, 1, 99930, 0, 3, 70, 0);
        Check.lose(bank, 0, 1, 50);
        Check.same("what the pocket holds", 20, bank.repay(0, 1000000));
        Check.same("an empty pocket", 0, bank.repay(0, 1));
        Check.loan("it is still open", bank, 0, 0, 50, 0, 3600, 0);
        bank.buy(0, 90);
        Check.same("what is owed", 50, bank.repay(0, 51));
        Check.loan("it is closed", bank, 0, 0, 0, 0, 3600, 1);
        Check.player("the rest is left", bank, 0, 1000 - 28, 40, 0, 0, 0, 0, 0, 0);
        Check.same("none is open", 0, bank.count(5));
    }

    private static void repayOfABadOne() {
        MinuteBank bank = Check.bankWith(2, 1000);
        bank.borrow(0, 10, 100, 5);
        Check.lose(bank, 0, 1, 10);
        bank.pass(120);
        Check.loan("no interest on a bad one", bank, 0, 0, 10, 100, 5, 2);
        bank.buy(0, 30);
        bank.pass(5);
        Check.same("a pocket is not touched again", 30, bank.player(0, 1));
        Check.same("a part", 4, bank.repay(0, 4));
        Check.loan("it stays bad", bank, 0, 0, 6, 100, 5, 2);
        Check.player("it stays bad", bank, 0, 990, 26, 0, 0, 0, 6, 1, 0);
        Check.same("the rest", 6, bank.repay(0, 9));
        Check.loan("it is closed", bank, 0, 0, 0, 100, 5, 1);
        Check.player("it is closed", bank, 0, 990, 20, 0, 0, 0, 0, 0, 0);
    }
}
