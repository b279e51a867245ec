/** The boundary cases of 'Players', 'Bank' and promises 2 to 5; the sentence stands above each test. */
public final class PlayersEdgesTest {
    public static void main(String[] args) {
        coinsOfANewPlayer();
        coinsLaterOn();
        eightPlayers();
        playerNumbers();
        playerFacts();
        buyNumbers();
        buyAmounts();
        buyCosts();
        buyOutOfTheReserve();
        buyWithAllCoins();
        sellNumbers();
        sellAmounts();
        sellGains();
        sellOutOfThePocket();
        sellForAllCoinsOfTheBank();
        priceSteps();
        priceOfACallIsTheOneAhead();
        priceBelowNothingOut();
        reserveBeyondTheFirst();
        goneSecondsStayOut();
        Check.finish();
    }

    private static MinuteBank one() {
        return Check.bankWith(1, 1000000);
    }

    // "IllegalArgumentException if coins is not 0 to 1000000"; "a pocket of seconds (0, at first)"
    private static void coinsOfANewPlayer() {
        Check.answers("0 coins", 0, MinuteBank::new, bank -> bank.addPlayer(0));
        Check.answers("1000000 coins", 0, MinuteBank::new, bank -> bank.addPlayer(1000000));
        Check.refusesOutside("coins", Check.ARGUMENT, 0, 1000000, MinuteBank::new, MinuteBank::addPlayer);
        MinuteBank bank = new MinuteBank();
        bank.addPlayer(0);
        bank.addPlayer(1000000);
        Check.player("the least", bank, 0, 0, 0, 0, 0, 0, 0, 0, 0);
        Check.player("the most", bank, 1, 1000000, 0, 0, 0, 0, 0, 0, 0);
    }

    // "each has coins (0 to 1000000, at first)": the bound does not hold for what is won
    private static void coinsLaterOn() {
        MinuteBank bank = one();
        bank.addPlayer(10000);
        bank.begin(0, 1, 10, 0, 0, 10000);
        Check.same("the winner gets", 18000, bank.end(0, 1));
        Check.same("more than 1000000", 1008000, bank.player(0, 0));
        Check.same("0", 0, bank.player(1, 0));
    }

    // "There are at most 8"; "IllegalStateException if there are 8"
    private static void eightPlayers() {
        Check.answers("the eighth", 7, () -> Check.bankWith(7, 5), bank -> bank.addPlayer(5));
        Check.refuses("a ninth", Check.STATE, () -> Check.bankWith(8, 5), bank -> bank.addPlayer(5));
        Check.refuses("a ninth of 0", Check.STATE, () -> Check.bankWith(8, 5), bank -> bank.addPlayer(0));
    }

    // "IndexOutOfBoundsException if there is no such player"
    private static void playerNumbers() {
        Check.refusesOutside("of none", Check.INDEX, 0, -1, MinuteBank::new, (bank, p) -> bank.player(p, 0));
        Check.refusesOutside("of one", Check.INDEX, 0, 0, PlayersEdgesTest::one, (bank, p) -> bank.player(p, 0));
        Check.Start eight = () -> Check.bankWith(8, 5);
        Check.refusesOutside("of 8", Check.INDEX, 0, 7, eight, (bank, p) -> bank.player(p, 0));
        Check.answers("the first of 8", 5, eight, bank -> bank.player(0, 0));
        Check.answers("the last of 8", 5, eight, bank -> bank.player(7, 0));
    }

    // "or what is not 0 to 7"
    private static void playerFacts() {
        Check.answers("what 0", 1000000, PlayersEdgesTest::one, bank -> bank.player(0, 0));
        Check.answers("what 7", 0, PlayersEdgesTest::one, bank -> bank.player(0, 7));
        Check.refusesOutside("what", Check.INDEX, 0, 7, PlayersEdgesTest::one, (bank, w) -> bank.player(0, w));
    }

    // "IndexOutOfBoundsException if there is no such player"
    private static void buyNumbers() {
        Check.Start two = () -> Check.bankWith(2, 100);
        Check.answers("the first", 1, two, bank -> bank.buy(0, 1));
        Check.answers("the last", 1, two, bank -> bank.buy(1, 1));
        Check.refusesOutside("buyer", Check.INDEX, 0, 1, two, (bank, p) -> bank.buy(p, 1));
        Check.refusesOutside("of none", Check.INDEX, 0, -1, MinuteBank::new, (bank, p) -> bank.buy(p, 1));
    }

    // "IllegalArgumentException if n is not 1 to 10000"
    private static void buyAmounts() {
        Check.answers("1", 1, PlayersEdgesTest::one, bank -> bank.buy(0, 1));
        Check.answers("10000", 3001, PlayersEdgesTest::one, bank -> bank.buy(0, 10000));
        Check.refusesOutside("n", Check.ARGUMENT, 1, 10000, PlayersEdgesTest::one, (bank, n) -> bank.buy(0, n));
    }

    // "Buying n seconds costs n * price / 10 and 1 coins", "/ is cut towards 0"
    private static void buyCosts() {
        Check.answers("3 at 3", 1, PlayersEdgesTest::one, bank -> bank.buy(0, 3));
        Check.answers("4 at 3", 2, PlayersEdgesTest::one, bank -> bank.buy(0, 4));
        Check.answers("6 at 3", 2, PlayersEdgesTest::one, bank -> bank.buy(0, 6));
        Check.answers("7 at 3", 3, PlayersEdgesTest::one, bank -> bank.buy(0, 7));
        Check.answers("9 at 3", 3, PlayersEdgesTest::one, bank -> bank.buy(0, 9));
        Check.answers("10 at 3", 4, PlayersEdgesTest::one, bank -> bank.buy(0, 10));
    }

    // "IllegalStateException if the reserve does not hold so many"
    private static void buyOutOfTheReserve() {
        Check.answers("10000 of 10000", 93001, () -> Check.bankWithReserve(10000, 2), bank -> bank.buy(1, 10000));
        Check.refuses("10000 of 9999", Check.STATE, () -> Check.bankWithReserve(9999, 2), bank -> bank.buy(1, 10000));
        Check.answers("1 of 1", 11, () -> Check.bankWithReserve(1, 2), bank -> bank.buy(1, 1));
        Check.refuses("2 of 1", Check.STATE, () -> Check.bankWithReserve(1, 2), bank -> bank.buy(1, 2));
        Check.refuses("1 of 0", Check.STATE, () -> Check.bankWithReserve(0, 2), bank -> bank.buy(1, 1));
        MinuteBank bank = Check.bankWithReserve(10000, 2);
        bank.buy(1, 10000);
        Check.same("the reserve is empty", 0, bank.count(6));
        Check.same("all are out", 100000, bank.count(9));
        Check.same("they are in the pocket", 10000, bank.player(1, 1));
    }

    // "or the player does not have the coins"
    private static void buyWithAllCoins() {
        Check.answers("31 of 31", 31, () -> Check.bankWith(1, 31), bank -> bank.buy(0, 100));
        Check.refuses("31 of 30", Check.STATE, () -> Check.bankWith(1, 30), bank -> bank.buy(0, 100));
        Check.answers("1 of 1", 1, () -> Check.bankWith(1, 1), bank -> bank.buy(0, 1));
        Check.refuses("1 of 0", Check.STATE, () -> Check.bankWith(1, 0), bank -> bank.buy(0, 1));
        MinuteBank bank = Check.bankWith(1, 31);
        bank.buy(0, 100);
        Check.player("none is left", bank, 0, 0, 100);
    }

    private static MinuteBank stocked() {
        MinuteBank bank = one();
        bank.buy(0, 10000);
        bank.buy(0, 10000);
        bank.addPlayer(0);
        return bank;
    }

    // "IndexOutOfBoundsException if there is no such player"
    private static void sellNumbers() {
        Check.answers("the first", 1, PlayersEdgesTest::stocked, bank -> bank.sell(0, 1));
        Check.Start lent = () -> {
            MinuteBank bank = stocked();
            bank.borrow(1, 1, 0, 1);
            return bank;
        };
        Check.answers("the last", 1, lent, bank -> bank.sell(1, 1));
        Check.refusesOutside("seller", Check.INDEX, 0, 1, lent, (bank, p) -> bank.sell(p, 1));
        Check.refusesOutside("of none", Check.INDEX, 0, -1, MinuteBank::new, (bank, p) -> bank.sell(p, 1));
    }

    // "IllegalArgumentException if n is not 1 to 10000"
    private static void sellAmounts() {
        Check.answers("1 at 23", 1, PlayersEdgesTest::stocked, bank -> bank.sell(0, 1));
        Check.answers("10000 at 23", 11500, PlayersEdgesTest::stocked, bank -> bank.sell(0, 10000));
        Check.refusesOutside("n", Check.ARGUMENT, 1, 10000, PlayersEdgesTest::stocked, (bank, n) -> bank.sell(0, n));
    }

    private static MinuteBank bought(int n) {
        MinuteBank bank = one();
        bank.buy(0, n);
        return bank;
    }

    // "selling them brings n * price / 20", "/ is cut towards 0"
    private static void sellGains() {
        Check.answers("1 at 3", 0, () -> bought(20), bank -> bank.sell(0, 1));
        Check.answers("6 at 3", 0, () -> bought(20), bank -> bank.sell(0, 6));
        Check.answers("7 at 3", 1, () -> bought(20), bank -> bank.sell(0, 7));
        Check.answers("13 at 3", 1, () -> bought(20), bank -> bank.sell(0, 13));
        Check.answers("14 at 3", 2, () -> bought(20), bank -> bank.sell(0, 14));
        Check.answers("19 at 3", 2, () -> bought(20), bank -> bank.sell(0, 19));
        Check.answers("20 at 3", 3, () -> bought(20), bank -> bank.sell(0, 20));
    }

    // "IllegalStateException if the pocket does not hold so many"
    private static void sellOutOfThePocket() {
        Check.answers("20 of 20", 3, () -> bought(20), bank -> bank.sell(0, 20));
        Check.refuses("21 of 20", Check.STATE, () -> bought(20), bank -> bank.sell(0, 21));
        Check.answers("1 of 1", 0, () -> bought(1), bank -> bank.sell(0, 1));
        Check.refuses("2 of 1", Check.STATE, () -> bought(1), bank -> bank.sell(0, 2));
        Check.refuses("1 of 0", Check.STATE, PlayersEdgesTest::one, bank -> bank.sell(0, 1));
        MinuteBank bank = bought(20);
        bank.sell(0, 20);
        Check.counts("all are back", bank, 0, 1, 0, 0, 0, 0, 100000, 4, 3, 0, 0);
        Check.player("none is left", bank, 0, 1000000 - 7 + 3, 0);
    }

    /** The bank has 4 coins, the price is 8. */
    private static MinuteBank bankOfFourCoins() {
        MinuteBank bank = bought(10);
        bank.addPlayer(0);
        bank.borrow(1, 5000, 0, 3600);
        return bank;
    }

    // "or the bank does not have the coins"
    private static void sellForAllCoinsOfTheBank() {
        Check.answers("4 of 4", 4, PlayersEdgesTest::bankOfFourCoins, bank -> bank.sell(1, 12));
        Check.refuses("5 of 4", Check.STATE, PlayersEdgesTest::bankOfFourCoins, bank -> bank.sell(1, 13));
        Check.Start poor = () -> {
            MinuteBank bank = Check.bankWith(1, 0);
            bank.borrow(0, 900, 0, 3600);
            return bank;
        };
        Check.answers("0 of 0", 0, poor, bank -> bank.sell(0, 6));
        Check.refuses("1 of 0", Check.STATE, poor, bank -> bank.sell(0, 7));
        MinuteBank bank = bankOfFourCoins();
        bank.sell(1, 12);
        Check.same("the bank has none", 0, bank.count(7));
        Check.same("the seller has them", 4, bank.player(1, 0));
    }

    // "Its price .. is 3 and (seconds that are out) / 1000"; "It has a reserve of seconds (100000, at first)"
    private static void priceSteps() {
        int[] out = {0, 999, 1000, 1999, 2000, 9999, 10000, 99999, 100000};
        int[] price = {3, 3, 4, 4, 5, 12, 13, 102, 103};
        for (int i = 0; i < out.length; i++) {
            MinuteBank bank = Check.bankWithReserve(100000 - out[i], 1);
            Check.same("out", out[i], bank.count(9));
            Check.same("price with so many out: " + out[i], price[i], bank.count(8));
        }
    }

    // "Its price (that of a call is the one ahead of it)"
    private static void priceOfACallIsTheOneAhead() {
        Check.answers("bought up to 1000", 1, () -> bought(999), bank -> bank.buy(0, 1));
        Check.answers("bought beyond 1000", 41, () -> bought(1000), bank -> bank.buy(0, 100));
        Check.answers("sold from 1000", 20, () -> bought(1000), bank -> bank.sell(0, 100));
        Check.answers("sold from 999", 15, () -> bought(999), bank -> bank.sell(0, 100));
    }

    /** The loans are due with the first interest; what the pocket lacks comes off a clock, and was never sold. */
    private static MinuteBank lessOut(int rate, int... loans) {
        MinuteBank bank = Check.bankWith(2, 100000);
        bank.begin(1, 0, 7200, 0, 0, 0);
        for (int n : loans) {
            bank.borrow(0, n, rate, 60);
        }
        bank.pass(60);
        return bank;
    }

    // "if this is less than 0, it counts as 0"
    private static void priceBelowNothingOut() {
        int[] rates = {0, 100, 100, 100};
        int[][] loans = {{1}, {4990, 4980}, {4990, 4990}, {4990, 5000}};
        int[] out = {-1, -999, -1000, -1001};
        for (int i = 0; i < loans.length; i++) {
            int rate = rates[i];
            int[] lent = loans[i];
            Check.Start less = () -> lessOut(rate, lent);
            MinuteBank bank = less.make();
            Check.same("out", out[i], bank.count(9));
            Check.same("price with so many out: " + out[i], 3, bank.count(8));
            Check.answers("10000 with so many out: " + out[i], 3001, less, b -> b.buy(1, 10000));
        }
        MinuteBank bank = lessOut(100, 4990, 4990);
        bank.buy(1, 1999);
        Check.same("price with 999 out", 3, bank.count(8));
        bank.buy(1, 1);
        Check.same("price with 1000 out", 4, bank.count(8));
    }

    // "a reserve of seconds (100000, at first)": what was never sold adds to it
    private static void reserveBeyondTheFirst() {
        MinuteBank bank = lessOut(100, 4990, 4990);
        Check.same("more than at first", 101000, bank.count(6));
        Check.same("it can be bought", 3001, bank.buy(1, 10000));
        Check.same("and comes out of the reserve", 91000, bank.count(6));
    }

    // "Seconds on clocks of games that have ended are gone (they stay out)"
    private static void goneSecondsStayOut() {
        int[] sides = {-1, 0, 1};
        for (int side : sides) {
            MinuteBank bank = bought(100);
            bank.addPlayer(0);
            bank.begin(0, 1, 5, 0, 0, 0);
            bank.put(0, 0, 100);
            bank.end(0, side);
            Check.same("out", 100, bank.count(9));
            Check.same("the reserve", 99900, bank.count(6));
            Check.same("the pocket", 0, bank.player(0, 1));
            Check.same("the clock stands", 105, bank.game(0, 2));
        }
    }
}
