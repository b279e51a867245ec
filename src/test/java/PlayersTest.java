/** Promises 1 to 5: a new object, addPlayer, player, buy, sell. */
public final class PlayersTest {
    public static void main(String[] args) {
        newObject();
        addPlayer();
        playerTellsAll();
        buy();
        buyTakesThePriceAheadOfIt();
        sell();
        priceWithLessThanNothingOut();
        Check.finish();
    }

    private static void newObject() {
        MinuteBank bank = new MinuteBank();
        Check.counts("new", bank, 0, 0, 0, 0, 0, 0, 100000, 0, 3, 0, 0);
        Check.sameMean("new, mean", 0.0, bank.mean());
        MinuteBank other = Check.bankWith(1, 5);
        Check.same("another bank is untouched", 0, bank.count(1));
        Check.same("the other bank has one", 1, other.count(1));
    }

    private static void addPlayer() {
        MinuteBank bank = new MinuteBank();
        Check.same("first", 0, bank.addPlayer(0));
        Check.same("second", 1, bank.addPlayer(1000000));
        Check.same("third", 2, bank.addPlayer(77));
        Check.same("players", 3, bank.count(1));
        Check.player("no coins", bank, 0, 0, 0, 0, 0, 0, 0, 0, 0);
        Check.player("most coins", bank, 1, 1000000, 0, 0, 0, 0, 0, 0, 0);
        Check.player("some coins", bank, 2, 77, 0, 0, 0, 0, 0, 0, 0);
    }

    private static void playerTellsAll() {
        MinuteBank bank = Check.bankWith(3, 1000);
        bank.buy(0, 50);
        bank.borrow(0, 5, 0, 3600);
        int won = bank.begin(0, 1, 100, 0, 0, 10);
        int lost = bank.begin(0, 1, 100, 0, 0, 10);
        bank.begin(0, 2, 100, 0, 0, 10);
        bank.begin(2, 0, 100, 0, 0, 10);
        bank.begin(2, 0, 100, 0, 0, 10);
        bank.end(won, 1);
        bank.end(lost, 0);
        bank.end(bank.begin(0, 2, 100, 0, 0, 10), 1);
        bank.steal(3, 1, 20);
        bank.pass(30);
        Check.player("all of 0", bank, 0, 1000 - 16 - 60 + 18 + 18, 55, 3, 2, 1, 5, 0, 1);
        Check.player("all of 1", bank, 1, 1000 - 20 + 18, 0, 0, 1, 1, 0, 0, 0);
        Check.player("all of 2", bank, 2, 1000 - 40, 0, 3, 0, 1, 0, 0, 0);
    }

    private static void buy() {
        MinuteBank bank = Check.bankWith(2, 100);
        Check.same("109 seconds", 33, bank.buy(1, 109));
        Check.player("the buyer", bank, 1, 67, 109);
        Check.player("the other", bank, 0, 100, 0);
        Check.counts("after it", bank, 0, 2, 0, 0, 0, 0, 99891, 33, 3, 109, 0);
    }

    private static void buyTakesThePriceAheadOfIt() {
        MinuteBank bank = Check.bankWith(1, 1000000);
        Check.same("at 3", 300, bank.buy(0, 999));
        Check.same("999 are out", 3, bank.count(8));
        Check.same("at 3 still", 1, bank.buy(0, 1));
        Check.same("1000 are out", 4, bank.count(8));
        Check.same("at 4", 4001, bank.buy(0, 10000));
        Check.same("11000 are out", 14, bank.count(8));
    }

    private static void sell() {
        MinuteBank bank = Check.bankWith(1, 10000);
        bank.buy(0, 5000);
        Check.same("39 at 8", 15, bank.sell(0, 39));
        Check.player("the seller", bank, 0, 10000 - 1501 + 15, 4961);
        Check.counts("after it", bank, 0, 1, 0, 0, 0, 0, 95039, 1486, 7, 4961, 0);
        Check.same("none for 2 at 7", 0, bank.sell(0, 2));
        Check.same("all coins of the bank", 1486, bank.sell(0, 4247));
        Check.same("the bank has none", 0, bank.count(7));
        Check.same("nothing for 6 at 3", 0, bank.sell(0, 6));
    }

    private static void priceWithLessThanNothingOut() {
        MinuteBank bank = Check.bankWith(2, 10000);
        bank.borrow(0, 5000, 100, 3600);
        int game = bank.begin(1, 0, 7200, 0, 0, 0);
        bank.pass(1200);
        bank.press(game);
        Check.passMany(bank, 1200);
        bank.repay(0, 5000);
        Check.same("nothing is out", 0, bank.count(9));
        Check.passMany(bank, 1200);
        Check.same("taken from the clock", 1, bank.game(game, 3));
        Check.same("out are less than 0", -(7200 - 2400 - 1), bank.count(9));
        Check.same("which counts as 0", 3, bank.count(8));
        Check.same("and so it is paid", 31, bank.buy(1, 100));
    }
}
