/** Promises 17 to 21: foresee, leader, needs, mean, digest. */
public final class LookingAheadTest {
    public static void main(String[] args) {
        foreseeNothing();
        foreseeGames();
        foreseeLoans();
        foreseeInterestAndArbiter();
        foreseeIsMadeAnew();
        leader();
        needs();
        needsWithADelay();
        mean();
        digest();
        Check.finish();
    }

    private static void foresees(String what, MinuteBank bank, int seconds, int... due) {
        long before = bank.digest();
        for (int i = 0; i < due.length; i++) {
            Check.same(what + ", foresee(" + seconds + ", " + i + ")", due[i], bank.foresee(seconds, i));
        }
        Check.same(what + ", nothing is changed", before, bank.digest());
    }

    private static void foreseeNothing() {
        MinuteBank bank = Check.bankWith(2, 100);
        foresees("no games", bank, 2400, -1, -1, 0, 0);
        bank.begin(0, 1, 100, 0, 0, 0);
        foresees("one second too few", bank, 99, -1, -1, 0, 0);
    }

    private static void foreseeGames() {
        MinuteBank bank = Check.bankWith(2, 100);
        bank.pass(10);
        bank.begin(0, 1, 300, 0, 0, 10);
        bank.begin(0, 1, 90, 0, 10, 10);
        bank.begin(0, 1, 100, 0, 0, 10);
        bank.end(bank.begin(0, 1, 5, 0, 0, 0), -1);
        foresees("two at once", bank, 100, 1, 110, 2, 0);
        foresees("all", bank, 2400, 1, 110, 3, 0);
        bank.pass(100);
        foresees("the rest", bank, 200, 0, 310, 1, 0);
        bank.pass(200);
        foresees("what has ended does not end", bank, 2400, -1, -1, 0, 0);
    }

    private static void foreseeLoans() {
        MinuteBank bank = Check.bankWith(2, 100);
        bank.borrow(0, 100, 0, 10);
        bank.borrow(0, 100, 0, 20);
        bank.borrow(1, 50, 0, 30);
        bank.begin(0, 1, 7200, 0, 30, 0);
        bank.put(0, 0, 100);
        Check.lose(bank, 0, 1, 100);
        Check.lose(bank, 1, 0, 50);
        bank.end(0, -1);
        foresees("none yet", bank, 9, -1, -1, 0, 0);
        foresees("one", bank, 10, -1, -1, 0, 1);
        foresees("two", bank, 29, -1, -1, 0, 2);
        foresees("three", bank, 30, -1, -1, 0, 3);
        bank.pass(10);
        foresees("it is bad already", bank, 20, -1, -1, 0, 2);
    }

    private static void foreseeInterestAndArbiter() {
        MinuteBank bank = Check.bankWith(2, 100);
        bank.borrow(0, 100, 0, 61);
        foresees("interest makes it bad", bank, 61, -1, -1, 0, 1);
        bank.begin(0, 1, 40, 0, 0, 0);
        bank.steal(0, 1, 20);
        foresees("ahead of the arbiter", bank, 29, 0, 20, 1, 0);
        bank.pass(19);
        bank.press(0);
        bank.pass(10);
        bank.press(0);
        // at 30 side 0 has 0 left
        foresees("the flag is first", bank, 1, 0, 30, 1, 0);
        bank.buy(0, 5);
        bank.put(0, 0, 1);
        // at 30 side 1 gives back 40; with 5 more in the pocket the loan is paid
        foresees("the arbiter gives back", bank, 41, -1, -1, 0, 0);
        foresees("till it falls at last", bank, 42, 0, 71, 1, 0);
    }

    private static void foreseeIsMadeAnew() {
        MinuteBank bank = Check.bankWith(2, 100);
        bank.begin(0, 1, 50, 10, 0, 10);
        foresees("once", bank, 60, 0, 50, 1, 0);
        foresees("twice", bank, 60, 0, 50, 1, 0);
        bank.addPlayer(5);
        bank.begin(2, 1, 10, 0, 0, 0);
        foresees("with a new game", bank, 60, 1, 10, 2, 0);
        bank.end(1, 0);
        bank.press(0);
        bank.press(0);
        foresees("with more time", bank, 60, 0, 60, 1, 0);
    }

    private static void leader() {
        MinuteBank bank = new MinuteBank();
        bank.addPlayer(50);
        bank.addPlayer(70);
        bank.addPlayer(50);
        bank.addPlayer(70);
        leaders("by coins, then by numbers", bank, 1, 3, 0, 2);
        bank.end(bank.begin(2, 0, 1, 0, 0, 0), 1);
        leaders("by games", bank, 2, 1, 3, 0);
        bank.end(bank.begin(0, 1, 1, 0, 0, 0), 1);
        leaders("won less lost", bank, 2, 3, 0, 1);
        bank.end(bank.begin(3, 1, 1, 0, 0, 0), -1);
        leaders("a stopped one does not matter", bank, 2, 3, 0, 1);
        bank.end(bank.begin(0, 2, 1, 0, 0, 0), 1);
        bank.end(bank.begin(0, 1, 1, 0, 0, 0), 0);
        bank.end(bank.begin(2, 1, 1, 0, 0, 0), 1);
        leaders("lost ones count", bank, 2, 3, 0, 1);
        bank.buy(3, 90);
        leaders("coins that were spent", bank, 2, 0, 3, 1);
    }

    private static void leaders(String what, MinuteBank bank, int... due) {
        for (int place = 0; place < due.length; place++) {
            Check.same(what + ", leader(" + place + ")", due[place], bank.leader(place));
        }
    }

    private static void needs() {
        MinuteBank bank = Check.bankWith(3, 5);
        Check.same("no games", 0, bank.needs(0, 600));
        bank.begin(0, 1, 100, 0, 0, 0);
        bank.begin(2, 0, 50, 0, 0, 0);
        Check.same("just enough", 0, bank.needs(0, 99));
        Check.same("it would come to 0", 1, bank.needs(0, 100));
        Check.same("600 seconds", 501, bank.needs(0, 600));
        Check.same("not its turn", 0, bank.needs(1, 600));
        bank.press(1);
        Check.same("two games", 501 + 551, bank.needs(0, 600));
        Check.same("one of two", 11, bank.needs(0, 60));
        bank.end(0, -1);
        Check.same("what has ended", 551, bank.needs(0, 600));
        bank.pass(20);
        Check.same("of what is left", 571, bank.needs(0, 600));
        Check.same("it has passed its turn", 0, bank.needs(2, 600));
        Check.same("no limit of time", 0, bank.needs(0, 1));
    }

    private static void needsWithADelay() {
        MinuteBank bank = Check.bankWith(2, 5);
        bank.begin(0, 1, 10, 5, 20, 0);
        Check.same("up to its last second", 0, bank.needs(0, 29));
        Check.same("one more", 1, bank.needs(0, 30));
        Check.same("less than the delay", 0, bank.needs(0, 1));
        bank.pass(15);
        Check.same("5 of the delay are left", 0, bank.needs(0, 14));
        Check.same("and one more", 1, bank.needs(0, 15));
        bank.pass(10);
        Check.same("none is left", 0, bank.needs(0, 4));
        Check.same("none, and one more", 1, bank.needs(0, 5));
        Check.passMany(bank, 3);
        Check.same("600 of 2", 599, bank.needs(0, 600));
        bank.begin(1, 0, 1, 0, 5, 0);
        Check.same("1 on the clock, but a delay", 0, bank.needs(1, 5));
        Check.same("and a second behind it", 1, bank.needs(1, 6));
    }

    private static void mean() {
        MinuteBank bank = Check.bankWith(2, 5);
        Check.sameMean("none", 0.0, bank.mean());
        bank.begin(0, 1, 100, 1, 0, 0);
        Check.sameMean("one", 100.0, bank.mean());
        bank.press(0);
        Check.sameMean("a half", 100.5, bank.mean());
        bank.begin(0, 1, 31, 0, 0, 0);
        Check.sameMean("two", 263.0 / 4, bank.mean());
        bank.begin(0, 1, 1, 0, 0, 0);
        Check.sameMean("three", 265.0 / 6, bank.mean());
        bank.end(0, 0);
        Check.sameMean("what runs", 16.0, bank.mean());
        bank.end(1, -1);
        bank.end(2, -1);
        Check.sameMean("none runs", 0.0, bank.mean());
    }

    private static void digest() {
        MinuteBank empty = new MinuteBank();
        Check.same("empty", digestOf(empty), empty.digest());
        MinuteBank bank = Check.bankWith(3, 500);
        bank.buy(2, 300);
        bank.borrow(1, 70, 3, 400);
        bank.borrow(0, 20, 3, 10);
        bank.begin(1, 2, 90, 3, 4, 5);
        bank.begin(2, 0, 80, 7, 8, 9);
        bank.steal(0, 1, 11);
        bank.press(1);
        bank.pass(75);
        Check.same("full", digestOf(bank), bank.digest());
        Check.same("again", digestOf(bank), bank.digest());
    }

    private static long digestOf(MinuteBank bank) {
        return Model.wrapped(LookingAheadEdgesTest.told(bank));
    }
}
