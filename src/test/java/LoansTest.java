/** Promises 6 to 8: borrow, repay, loan. */
public final class LoansTest {
    public static void main(String[] args) {
        borrow();
        borrowAtTheEdges();
        borrowRefusesArguments();
        borrowRefusesAFourthOpenOne();
        borrowRefusesWhoHasABadOne();
        borrowRefusesWhatTheReserveLacks();
        borrowRefusesATwentyFirst();
        repay();
        repayOfABadOne();
        repayRefuses();
        loanRefuses();
        Check.finish();
    }

    private static void borrow() {
        MinuteBank bank = Check.bankWith(2, 7);
        bank.pass(10);
        Check.same("first", 0, bank.borrow(1, 1200, 10, 60));
        Check.loan("first", bank, 0, 1, 1200, 10, 70, 0);
        Check.player("borrower", bank, 1, 7, 1200, 0, 0, 0, 1200, 0, 0);
        Check.player("other", bank, 0, 7, 0, 0, 0, 0, 0, 0, 0);
        Check.counts("after it", bank, 10, 2, 0, 0, 1, 1, 98800, 0, 4, 1200, 0);
        Check.same("second", 1, bank.borrow(0, 1, 0, 1));
        Check.loan("second", bank, 1, 0, 1, 0, 11, 0);
        Check.same("open ones", 2, bank.count(5));
    }

    private static void borrowAtTheEdges() {
        MinuteBank bank = Check.bankWith(1, 0);
        Check.same("greatest", 0, bank.borrow(0, 5000, 100, 3600));
        Check.same("least", 1, bank.borrow(0, 1, 0, 1));
        Check.loan("greatest", bank, 0, 0, 5000, 100, 3600, 0);
        Check.loan("least", bank, 1, 0, 1, 0, 1, 0);
    }

    private static void borrowRefusesArguments() {
        MinuteBank bank = Check.bankWith(1, 0);
        Check.refuses("player 1", Check.INDEX, bank, () -> bank.borrow(1, 0, 0, 1));
        Check.refuses("player -1", Check.INDEX, bank, () -> bank.borrow(-1, 1, 0, 1));
        Check.refuses("n 0", Check.ARGUMENT, bank, () -> bank.borrow(0, 0, 0, 1));
        Check.refuses("n 5001", Check.ARGUMENT, bank, () -> bank.borrow(0, 5001, 0, 1));
        Check.refuses("rate -1", Check.ARGUMENT, bank, () -> bank.borrow(0, 1, -1, 1));
        Check.refuses("rate 101", Check.ARGUMENT, bank, () -> bank.borrow(0, 1, 101, 1));
        Check.refuses("seconds 0", Check.ARGUMENT, bank, () -> bank.borrow(0, 1, 0, 0));
        Check.refuses("seconds 3601", Check.ARGUMENT, bank, () -> bank.borrow(0, 1, 0, 3601));
    }

    private static void borrowRefusesAFourthOpenOne() {
        MinuteBank bank = Check.bankWith(2, 0);
        for (int i = 0; i < 3; i++) {
            bank.borrow(0, 10, 0, 100);
        }
        Check.refuses("a fourth", Check.STATE, bank, () -> bank.borrow(0, 10, 0, 100));
        Check.refuses("a fourth of 0", Check.ARGUMENT, bank, () -> bank.borrow(0, 0, 0, 100));
        Check.same("another player's", 3, bank.borrow(1, 10, 0, 100));
        bank.repay(1, 10);
        Check.same("after one was closed", 4, bank.borrow(0, 10, 0, 100));
    }

    private static void borrowRefusesWhoHasABadOne() {
        MinuteBank bank = Check.bankWith(2, 1000);
        bank.borrow(0, 10, 0, 5);
        Check.lose(bank, 0, 1, 10);
        bank.pass(5);
        Check.loan("it is bad", bank, 0, 0, 10, 0, 5, 2);
        Check.refuses("with a bad one", Check.STATE, bank, () -> bank.borrow(0, 1, 0, 1));
        Check.same("who has none", 1, bank.borrow(1, 1, 0, 1));
        bank.buy(0, 10);
        bank.repay(0, 10);
        Check.same("when it is paid", 2, bank.borrow(0, 1, 0, 1));
    }

    private static void borrowRefusesWhatTheReserveLacks() {
        MinuteBank bank = Check.bankWith(1, 1000000);
        for (int i = 0; i < 9; i++) {
            bank.buy(0, 10000);
        }
        bank.buy(0, 9999);
        Check.refuses("two of one", Check.STATE, bank, () -> bank.borrow(0, 2, 0, 1));
        Check.same("the last one", 0, bank.borrow(0, 1, 0, 1));
        Check.same("the reserve is empty", 0, bank.count(6));
    }

    private static void borrowRefusesATwentyFirst() {
        MinuteBank bank = Check.bankWith(1, 0);
        for (int i = 0; i < 20; i++) {
            Check.same("the loan", i, bank.borrow(0, 5, 0, 10));
            Check.same("is paid", 5, bank.repay(i, 5));
        }
        Check.refuses("one more", Check.STATE, bank, () -> bank.borrow(0, 5, 0, 10));
        Check.counts("20 and none open", bank, 0, 1, 0, 0, 20, 0, 100000, 0, 3, 0, 0);
    }

    private static void repay() {
        MinuteBank bank = Check.bankWith(2, 1000);
        bank.borrow(0, 100, 0, 3600);
        Check.same("a part", 30, bank.repay(0, 30));
        Check.loan("a part", bank, 0, 0, 70, 0, 3600, 0);
        Check.player("a part", bank, 0, 1000, 70, 0, 0, 0, 70, 0, 0);
        Check.counts("a part", bank, 0, 2, 0, 0, 1, 1, 99930, 0, 3, 70, 0);
        Check.lose(bank, 0, 1, 50);
        Check.same("what the pocket holds", 20, bank.repay(0, 1000000));
        Check.same("an empty pocket", 0, bank.repay(0, 1));
        Check.loan("it is still open", bank, 0, 0, 50, 0, 3600, 0);
        bank.buy(0, 90);
        Check.same("what is owed", 50, bank.repay(0, 51));
        Check.loan("it is closed", bank, 0, 0, 0, 0, 3600, 1);
        Check.player("the rest is left", bank, 0, 1000 - 28, 40, 0, 0, 0, 0, 0, 0);
        Check.same("none is open", 0, bank.count(5));
    }

    private static void repayOfABadOne() {
        MinuteBank bank = Check.bankWith(2, 1000);
        bank.borrow(0, 10, 100, 5);
        Check.lose(bank, 0, 1, 10);
        bank.pass(120);
        Check.loan("no interest on a bad one", bank, 0, 0, 10, 100, 5, 2);
        bank.buy(0, 30);
        bank.pass(5);
        Check.same("a pocket is not touched again", 30, bank.player(0, 1));
        Check.same("a part", 4, bank.repay(0, 4));
        Check.loan("it stays bad", bank, 0, 0, 6, 100, 5, 2);
        Check.player("it stays bad", bank, 0, 990, 26, 0, 0, 0, 6, 1, 0);
        Check.same("the rest", 6, bank.repay(0, 9));
        Check.loan("it is closed", bank, 0, 0, 0, 100, 5, 1);
        Check.player("it is closed", bank, 0, 990, 20, 0, 0, 0, 0, 0, 0);
        Check.refuses("once more", Check.STATE, bank, () -> bank.repay(0, 1));
    }

    private static void repayRefuses() {
        MinuteBank bank = Check.bankWith(1, 0);
        bank.borrow(0, 10, 0, 5);
        Check.refuses("loan 1", Check.INDEX, bank, () -> bank.repay(1, 0));
        Check.refuses("loan -1", Check.INDEX, bank, () -> bank.repay(-1, 1));
        Check.refuses("loan 20", Check.INDEX, bank, () -> bank.repay(20, 1));
        Check.refuses("n 0", Check.ARGUMENT, bank, () -> bank.repay(0, 0));
        Check.refuses("n 1000001", Check.ARGUMENT, bank, () -> bank.repay(0, 1000001));
        bank.repay(0, 10);
        Check.refuses("a closed one", Check.STATE, bank, () -> bank.repay(0, 1));
        Check.refuses("a closed one, n 0", Check.ARGUMENT, bank, () -> bank.repay(0, 0));
    }

    private static void loanRefuses() {
        MinuteBank bank = Check.bankWith(1, 0);
        bank.borrow(0, 10, 0, 5);
        Check.refuses("loan 1", Check.INDEX, bank, () -> bank.loan(1, 0));
        Check.refuses("loan -1", Check.INDEX, bank, () -> bank.loan(-1, 0));
        Check.refuses("loan 20", Check.INDEX, bank, () -> bank.loan(20, 0));
        Check.refuses("what -1", Check.INDEX, bank, () -> bank.loan(0, -1));
        Check.refuses("what 5", Check.INDEX, bank, () -> bank.loan(0, 5));
    }
}
