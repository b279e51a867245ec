/** Promises 1 to 5: a new object, addPlayer, player, buy, sell. */
public final class PlayersTest {
    public static void main(String[] args) {
        newObject();
        addPlayer();
        addPlayerRefuses();
        playerTellsAll();
        playerRefuses();
        buy();
        buyTakesThePriceAheadOfIt();
        buyAtTheEdges();
        buyRefuses();
        sell();
        sellRefuses();
        priceWithLessThanNothingOut();
        Check.finish();
    }

    private static void newObject() {
        MinuteBank bank = new MinuteBank();
        Check.counts("new", bank, 0, 0, 0, 0, 0, 0, 100000, 0, 3, 0, 0);
        Check.sameMean("new, mean", 0.0, bank.mean());
        Check.refuses("new, player", Check.INDEX, bank, () -> bank.player(0, 0));
        Check.refuses("new, loan", Check.INDEX, bank, () -> bank.loan(0, 0));
        Check.refuses("new, game", Check.INDEX, bank, () -> bank.game(0, 0));
        Check.refuses("new, leader", Check.INDEX, bank, () -> bank.leader(0));
        MinuteBank other = Check.bankWith(1, 5);
        Check.same("another bank is untouched", 0, bank.count(1));
        Check.same("the other bank has one", 1, other.count(1));
    }

    private static void addPlayer() {
        MinuteBank bank = new MinuteBank();
        Check.same("first", 0, bank.addPlayer(0));
        Check.same("second", 1, bank.addPlayer(1000000));
        Check.same("third", 2, bank.addPlayer(77));
        Check.same("players", 3, bank.count(1));
        Check.player("no coins", bank, 0, 0, 0, 0, 0, 0, 0, 0, 0);
        Check.player("most coins", bank, 1, 1000000, 0, 0, 0, 0, 0, 0, 0);
        Check.player("some coins", bank, 2, 77, 0, 0, 0, 0, 0, 0, 0);
    }

    private static void addPlayerRefuses() {
        MinuteBank bank = Check.bankWith(7, 1);
        Check.refuses("-1 coins", Check.ARGUMENT, bank, () -> bank.addPlayer(-1));
        Check.refuses("too many coins", Check.ARGUMENT, bank, () -> bank.addPlayer(1000001));
        Check.refuses("least int", Check.ARGUMENT, bank, () -> bank.addPlayer(Integer.MIN_VALUE));
        Check.same("the eighth", 7, bank.addPlayer(1));
        Check.refuses("a ninth", Check.STATE, bank, () -> bank.addPlayer(1));
        Check.refuses("a ninth with -1 coins", Check.ARGUMENT, bank, () -> bank.addPlayer(-1));
    }

    private static void playerTellsAll() {
        MinuteBank bank = Check.bankWith(3, 1000);
        bank.buy(0, 50);
        bank.borrow(0, 5, 0, 3600);
        int won = bank.begin(0, 1, 100, 0, 0, 10);
        int lost = bank.begin(0, 1, 100, 0, 0, 10);
        bank.begin(0, 2, 100, 0, 0, 10);
        bank.begin(2, 0, 100, 0, 0, 10);
        bank.begin(2, 0, 100, 0, 0, 10);
        bank.end(won, 1);
        bank.end(lost, 0);
        bank.end(bank.begin(0, 2, 100, 0, 0, 10), 1);
        bank.steal(3, 1, 20);
        bank.pass(30);
        Check.player("all of 0", bank, 0, 1000 - 16 - 60 + 18 + 18, 55, 3, 2, 1, 5, 0, 1);
        Check.player("all of 1", bank, 1, 1000 - 20 + 18, 0, 0, 1, 1, 0, 0, 0);
        Check.player("all of 2", bank, 2, 1000 - 40, 0, 3, 0, 1, 0, 0, 0);
    }

    private static void playerRefuses() {
        MinuteBank bank = Check.bankWith(2, 5);
        Check.refuses("player -1", Check.INDEX, bank, () -> bank.player(-1, 0));
        Check.refuses("player 2", Check.INDEX, bank, () -> bank.player(2, 0));
        Check.refuses("player 8", Check.INDEX, bank, () -> bank.player(8, 0));
        Check.refuses("greatest int", Check.INDEX, bank, () -> bank.player(Integer.MAX_VALUE, 0));
        Check.refuses("what -1", Check.INDEX, bank, () -> bank.player(0, -1));
        Check.refuses("what 8", Check.INDEX, bank, () -> bank.player(0, 8));
    }

    private static void buy() {
        MinuteBank bank = Check.bankWith(2, 100);
        Check.same("109 seconds", 33, bank.buy(1, 109));
        Check.player("the buyer", bank, 1, 67, 109);
        Check.player("the other", bank, 0, 100, 0);
        Check.counts("after it", bank, 0, 2, 0, 0, 0, 0, 99891, 33, 3, 109, 0);
    }

    private static void buyTakesThePriceAheadOfIt() {
        MinuteBank bank = Check.bankWith(1, 1000000);
        Check.same("at 3", 300, bank.buy(0, 999));
        Check.same("999 are out", 3, bank.count(8));
        Check.same("at 3 still", 1, bank.buy(0, 1));
        Check.same("1000 are out", 4, bank.count(8));
        Check.same("at 4", 4001, bank.buy(0, 10000));
        Check.same("11000 are out", 14, bank.count(8));
    }

    private static void buyAtTheEdges() {
        MinuteBank bank = Check.bankWith(2, 1000000);
        MinuteBank poor = Check.bankWith(1, 31);
        Check.same("all coins", 31, poor.buy(0, 100));
        Check.player("poor", poor, 0, 0, 100);
        for (int i = 0; i < 9; i++) {
            Check.same("10000 seconds", 3001 + 10000 * i, bank.buy(0, 10000));
        }
        bank.buy(0, 9999);
        Check.same("one is left", 1, bank.count(6));
        Check.refuses("two of one", Check.STATE, bank, () -> bank.buy(1, 2));
        Check.same("the last one", 102 / 10 + 1, bank.buy(1, 1));
        Check.refuses("one of none", Check.STATE, bank, () -> bank.buy(1, 1));
        Check.same("price", 103, bank.count(8));
        Check.same("out", 100000, bank.count(9));
    }

    private static void buyRefuses() {
        MinuteBank bank = Check.bankWith(1, 30);
        Check.refuses("no such player", Check.INDEX, bank, () -> bank.buy(1, 0));
        Check.refuses("player -1", Check.INDEX, bank, () -> bank.buy(-1, 1));
        Check.refuses("n 0", Check.ARGUMENT, bank, () -> bank.buy(0, 0));
        Check.refuses("n -1", Check.ARGUMENT, bank, () -> bank.buy(0, -1));
        Check.refuses("n 10001", Check.ARGUMENT, bank, () -> bank.buy(0, 10001));
        Check.refuses("one coin too few", Check.STATE, bank, () -> bank.buy(0, 100));
        Check.same("just enough", 30, bank.buy(0, 99));
    }

    private static void sell() {
        MinuteBank bank = Check.bankWith(1, 10000);
        bank.buy(0, 5000);
        Check.same("39 at 8", 15, bank.sell(0, 39));
        Check.player("the seller", bank, 0, 10000 - 1501 + 15, 4961);
        Check.counts("after it", bank, 0, 1, 0, 0, 0, 0, 95039, 1486, 7, 4961, 0);
        Check.same("none for 2 at 7", 0, bank.sell(0, 2));
        Check.same("all coins of the bank", 1486, bank.sell(0, 4247));
        Check.same("the bank has none", 0, bank.count(7));
        Check.same("nothing for 6 at 3", 0, bank.sell(0, 6));
        Check.refuses("a coin for 7 at 3", Check.STATE, bank, () -> bank.sell(0, 7));
    }

    private static void sellRefuses() {
        MinuteBank bank = Check.bankWith(2, 10000);
        bank.buy(0, 100);
        Check.refuses("no such player", Check.INDEX, bank, () -> bank.sell(2, 0));
        Check.refuses("n 0", Check.ARGUMENT, bank, () -> bank.sell(0, 0));
        Check.refuses("n 10001", Check.ARGUMENT, bank, () -> bank.sell(0, 10001));
        Check.refuses("one more than the pocket holds", Check.STATE, bank, () -> bank.sell(0, 101));
        Check.refuses("an empty pocket", Check.STATE, bank, () -> bank.sell(1, 1));
        Check.same("the whole pocket", 15, bank.sell(0, 100));
        Check.same("nothing is out", 0, bank.count(9));
        MinuteBank poor = Check.bankWith(1, 0);
        poor.borrow(0, 5000, 0, 3600);
        Check.refuses("the bank has no coins", Check.STATE, poor, () -> poor.sell(0, 100));
    }

    private static void priceWithLessThanNothingOut() {
        MinuteBank bank = Check.bankWith(2, 10000);
        bank.borrow(0, 5000, 100, 3600);
        int game = bank.begin(1, 0, 7200, 0, 0, 0);
        bank.pass(1200);
        bank.press(game);
        Check.passMany(bank, 1200);
        bank.repay(0, 5000);
        Check.same("nothing is out", 0, bank.count(9));
        Check.passMany(bank, 1200);
        Check.same("taken from the clock", 1, bank.game(game, 3));
        Check.same("out are less than 0", -(7200 - 2400 - 1), bank.count(9));
        Check.same("which counts as 0", 3, bank.count(8));
        Check.same("and so it is paid", 31, bank.buy(1, 100));
    }
}
