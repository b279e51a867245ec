/** Promises 15 and 16: pass, count; and what a second does: clocks, interest, due, arbiter. */
public final class SecondsTest {
    public static void main(String[] args) {
        clocksAndDelay();
        flagsFall();
        interest();
        interestHasABound();
        dueFromThePocket();
        dueFromTheClocks();
        dueInOrder();
        dueAfterInterest();
        dueAfterTheFlag();
        arbiterCatches();
        arbiterHalves();
        arbiterLeavesOne();
        arbiterTakesSidesInOrder();
        arbiterAfterTheDue();
        arbiterOnlyWhereAGameRuns();
        Check.finish();
    }

    private static void clocksAndDelay() {
        MinuteBank bank = Check.bankWith(3, 0);
        bank.begin(0, 1, 100, 0, 0, 0);
        bank.begin(1, 2, 100, 5, 10, 0);
        bank.begin(0, 2, 100, 0, 0, 0);
        bank.press(2);
        bank.end(bank.begin(0, 2, 100, 0, 0, 0), -1);
        Check.same("none ends", 0, bank.pass(10));
        Check.game("no delay", bank, 0, 0, 1, 90, 100, 0, 0, 10, 0, 0, 0, 0);
        Check.game("a delay", bank, 1, 1, 2, 100, 100, 0, 0, 10, 0, 0, 0, 0);
        Check.game("side 1", bank, 2, 0, 2, 100, 90, 1, 1, 10, 0, 0, 0, 0);
        Check.game("a stopped one", bank, 3, 0, 2, 100, 100, 0, 0, 0, 3, 0, 0, 0);
        bank.pass(2);
        Check.game("the delay is over", bank, 1, 1, 2, 98, 100, 0, 0, 12, 0, 0, 0, 0);
    }

    private static void flagsFall() {
        MinuteBank bank = Check.bankWith(3, 1000);
        bank.begin(0, 1, 5, 0, 2, 100);
        bank.begin(2, 1, 7, 0, 0, 15);
        bank.press(1);
        bank.begin(0, 2, 8, 0, 0, 0);
        Check.same("not yet", 0, bank.pass(6));
        Check.same("one is left", 1, bank.game(0, 2));
        Check.same("two at once", 2, bank.pass(1));
        Check.game("side 0 falls", bank, 0, 0, 1, 0, 5, 0, 0, 7, 2, 0, 0, 100);
        Check.game("side 1 falls", bank, 1, 2, 1, 7, 0, 1, 1, 7, 1, 0, 0, 15);
        Check.player("0", bank, 0, 900, 0, 1, 0, 1, 0, 0, 0);
        Check.player("1", bank, 1, 1000 - 100 - 15 + 180, 0, 0, 1, 1, 0, 0, 0);
        Check.player("2", bank, 2, 1000 - 15 + 27, 0, 1, 1, 0, 0, 0, 0);
        Check.counts("after it", bank, 7, 3, 3, 1, 0, 0, 100000, 23, 3, 0, 0);
        Check.same("the last one", 1, bank.pass(1200));
        Check.same("nothing more", 0, bank.pass(1200));
        Check.game("it stands", bank, 0, 0, 1, 0, 5, 0, 0, 7, 2, 0, 0, 100);
    }

    private static void interest() {
        MinuteBank bank = Check.bankWith(2, 1000);
        bank.pass(1);
        bank.borrow(0, 1999, 1, 3600);
        bank.borrow(0, 300, 0, 3600);
        bank.borrow(1, 100, 100, 3600);
        bank.pass(58);
        Check.same("at 59", 1999, bank.loan(0, 1));
        bank.pass(1);
        Check.same("1999 at 1", 2001, bank.loan(0, 1));
        Check.same("300 at 0", 301, bank.loan(1, 1));
        Check.same("100 at 100", 111, bank.loan(2, 1));
        bank.pass(60);
        Check.same("2001 at 1", 2004, bank.loan(0, 1));
        Check.same("301 at 0", 302, bank.loan(1, 1));
        Check.same("111 at 100", 123, bank.loan(2, 1));
        Check.same("all that 0 owes", 2306, bank.player(0, 5));
        bank.repay(2, 100);
        bank.buy(1, 100);
        bank.repay(2, 100);
        bank.pass(60);
        Check.loan("a closed one bears none", bank, 2, 1, 0, 100, 3601, 1);
        Check.same("interest is not out", 1999 + 300 + 100 + 100 - 123, bank.count(9));
    }

    private static void interestHasABound() {
        MinuteBank bank = Check.bankWith(1, 0);
        bank.borrow(0, 5000, 100, 3600);
        Check.passMany(bank, 3599);
        Check.same("at most", 1000000, bank.loan(0, 1));
        bank.pass(1);
        Check.loan("the pocket is taken", bank, 0, 0, 995000, 100, 3600, 2);
        Check.same("nothing is out", 0, bank.count(9));
    }

    private static void dueFromThePocket() {
        MinuteBank bank = Check.bankWith(1, 1000);
        bank.borrow(0, 100, 0, 30);
        bank.buy(0, 10);
        bank.pass(29);
        Check.loan("not yet", bank, 0, 0, 100, 0, 30, 0);
        bank.pass(1);
        Check.loan("it is closed", bank, 0, 0, 0, 0, 30, 1);
        Check.player("the rest is left", bank, 0, 996, 10, 0, 0, 0, 0, 0, 0);
        Check.counts("it is back", bank, 30, 1, 0, 0, 1, 0, 99990, 4, 3, 10, 0);
    }

    private static void dueFromTheClocks() {
        MinuteBank bank = Check.bankWith(2, 1000);
        bank.begin(1, 0, 40, 0, 0, 0);
        bank.end(bank.begin(0, 1, 500, 0, 0, 0), -1);
        bank.begin(0, 1, 50, 0, 30, 0);
        bank.begin(1, 0, 60, 0, 0, 0);
        bank.borrow(0, 110, 0, 20);
        bank.put(2, 0, 10);
        bank.pass(20);
        Check.loan("it is closed", bank, 0, 0, 0, 0, 20, 1);
        Check.same("nothing is left in the pocket", 0, bank.player(0, 1));
        Check.game("0 was white's turn", bank, 0, 1, 0, 20, 30, 0, 0, 20, 0, 0, 0, 0);
        Check.game("what has ended", bank, 1, 0, 1, 500, 500, 0, 0, 0, 3, 0, 0, 0);
        Check.game("not needed", bank, 2, 0, 1, 60, 50, 0, 0, 20, 0, 0, 0, 0);
        Check.same("nothing is out", 0, bank.count(9));
        bank.borrow(0, 200, 0, 5);
        Check.lose(bank, 0, 1, 200);
        bank.pass(5);
        Check.loan("it is bad", bank, 1, 0, 200 - 29 - 59 - 59, 0, 25, 2);
        Check.same("one is kept in 0", 1, bank.game(0, 3));
        Check.same("one is kept in 2", 1, bank.game(2, 2));
        Check.same("one is kept in 3", 1, bank.game(3, 3));
        Check.same("the other one keeps all", 50, bank.game(2, 3));
        Check.same("what is out", 200 - 29 - 59 - 59, bank.count(9));
    }

    private static void dueInOrder() {
        MinuteBank bank = Check.bankWith(2, 1000);
        bank.borrow(0, 30, 0, 10);
        bank.borrow(0, 30, 0, 10);
        bank.borrow(1, 30, 0, 10);
        Check.lose(bank, 0, 1, 20);
        bank.pass(10);
        Check.loan("the first one", bank, 0, 0, 0, 0, 10, 1);
        Check.loan("the second one", bank, 1, 0, 20, 0, 10, 2);
        Check.loan("another player's", bank, 2, 1, 0, 0, 10, 1);
        Check.player("bad ones", bank, 0, 1000, 0, 0, 0, 0, 20, 1, 0);
    }

    private static void dueAfterInterest() {
        MinuteBank bank = Check.bankWith(1, 1000);
        bank.borrow(0, 100, 0, 60);
        bank.pass(60);
        Check.loan("one more", bank, 0, 0, 1, 0, 60, 2);
    }

    private static void dueAfterTheFlag() {
        MinuteBank bank = Check.bankWith(2, 1000);
        bank.begin(1, 0, 5, 0, 0, 0);
        bank.borrow(0, 4, 0, 5);
        Check.lose(bank, 0, 1, 4);
        Check.same("the flag falls first", 1, bank.pass(5));
        Check.loan("so the clock is gone", bank, 0, 0, 4, 0, 5, 2);
        Check.same("and untouched", 5, bank.game(0, 3));
    }

    private static void arbiterCatches() {
        MinuteBank bank = Check.bankWith(2, 0);
        bank.begin(0, 1, 100, 0, 30, 0);
        bank.steal(0, 1, 15);
        bank.pass(29);
        Check.game("not yet", bank, 0, 0, 1, 85, 115, 0, 0, 29, 0, 0, 15, 0);
        bank.pass(1);
        Check.game("caught", bank, 0, 0, 1, 115, 85, 0, 0, 30, 0, 0, 0, 0);
        Check.same("the thief", 1, bank.player(1, 7));
        Check.same("the victim", 0, bank.player(0, 7));
        bank.press(0);
        bank.steal(0, 0, 20);
        bank.pass(30);
        Check.game("the other one", bank, 0, 0, 1, 95, 105, 1, 1, 30, 0, 0, 0, 0);
        Check.same("white", 1, bank.player(0, 7));
        Check.same("black", 1, bank.player(1, 7));
        Check.same("in all", 2, bank.count(10));
    }

    private static void arbiterHalves() {
        MinuteBank bank = Check.bankWith(2, 0);
        bank.begin(0, 1, 1000, 0, 0, 0);
        bank.steal(0, 1, 14);
        bank.press(0);
        bank.steal(0, 0, 1);
        bank.pass(30);
        Check.game("halves", bank, 0, 0, 1, 987, 983, 1, 1, 30, 0, 0, 7, 0);
        bank.press(0);
        bank.steal(0, 1, 8);
        bank.pass(30);
        Check.game("7 and 8", bank, 0, 0, 1, 979 + 30 - 30, 991 - 30, 0, 2, 30, 0, 0, 0, 0);
        Check.same("caught", 1, bank.player(1, 7));
        bank.steal(0, 1, 14);
        bank.pass(60);
        Check.same("twice halved", 3, bank.game(0, 9));
        Check.same("not caught", 1, bank.count(10));
    }

    private static void arbiterLeavesOne() {
        MinuteBank bank = Check.bankWith(2, 0);
        bank.begin(0, 1, 40, 0, 30, 0);
        bank.steal(0, 1, 20);
        bank.press(0);
        bank.pass(29);
        bank.steal(0, 0, 20);
        bank.steal(0, 0, 20);
        bank.steal(0, 0, 20);
        Check.game("ahead", bank, 0, 0, 1, 79, 1, 1, 1, 29, 0, 59, 20, 0);
        bank.pass(1);
        // side 0 gives min(118, 78) first; then side 1 has 79, and gives 40
        Check.game("caught both", bank, 0, 0, 1, 41, 39, 1, 1, 30, 0, 0, 0, 0);
        Check.same("white", 1, bank.player(0, 7));
        Check.same("black", 1, bank.player(1, 7));
    }

    private static void arbiterTakesSidesInOrder() {
        MinuteBank bank = Check.bankWith(2, 0);
        bank.begin(0, 1, 20, 0, 30, 0);
        bank.steal(0, 1, 19);
        bank.press(0);
        bank.steal(0, 0, 20);
        bank.steal(0, 0, 18);
        bank.pass(29);
        Check.game("ahead", bank, 0, 0, 1, 39, 1, 1, 1, 29, 0, 38, 19, 0);
        bank.pass(1);
        // were side 1 the first, it would have had nothing to give
        Check.game("behind", bank, 0, 0, 1, 39, 1, 1, 1, 30, 0, 0, 0, 0);
        Check.same("in all", 2, bank.count(10));
    }

    private static void arbiterAfterTheDue() {
        MinuteBank bank = Check.bankWith(2, 0);
        bank.begin(0, 1, 100, 0, 30, 0);
        bank.borrow(1, 500, 0, 30);
        Check.lose(bank, 1, 0, 500);
        bank.steal(0, 1, 20);
        bank.pass(30);
        Check.game("nothing is left to give", bank, 0, 0, 1, 80, 1, 0, 0, 30, 0, 0, 0, 0);
        Check.loan("all was taken", bank, 0, 1, 500 - 119, 0, 30, 2);
        Check.same("caught all the same", 1, bank.player(1, 7));
    }

    private static void arbiterOnlyWhereAGameRuns() {
        MinuteBank bank = Check.bankWith(2, 0);
        bank.begin(0, 1, 50, 0, 0, 0);
        bank.begin(0, 1, 50, 0, 0, 0);
        bank.steal(0, 1, 20);
        bank.steal(1, 1, 20);
        bank.end(1, -1);
        Check.same("the flag falls at 30", 1, bank.pass(30));
        Check.game("it has ended", bank, 0, 0, 1, 0, 70, 0, 0, 30, 2, 0, 20, 0);
        Check.game("it was stopped", bank, 1, 0, 1, 30, 70, 0, 0, 0, 3, 0, 20, 0);
        Check.same("nobody is caught", 0, bank.count(10));
    }
}
