/** The boundary cases of 'Games' and promises 9 to 14; the sentence stands above each test. */
public final class GamesEdgesTest {
    public static void main(String[] args) {
        beginNumbers();
        beginWithTheSame();
        beginSeconds();
        beginIncrements();
        beginDelays();
        beginStakes();
        beginWithAllCoins();
        sixteenGames();
        sixteenEndedGames();
        stakeIsWithNobody();
        tenthIsCut();
        pressNumbers();
        pressEndedOnes();
        pressStartsTheTurnAt0();
        putNumbers();
        putSides();
        putAmounts();
        putOutOfThePocket();
        putEndedOnes();
        stealNumbers();
        stealSides();
        stealAmounts();
        stealAtMostAllButOne();
        stealInItsTurn();
        stealEndedOnes();
        endNumbers();
        endSides();
        endEndedOnes();
        gameNumbers();
        gameFacts();
        Check.finish();
    }

    private static MinuteBank two() {
        return Check.bankWith(2, 10000);
    }

    /** Both have 1000 more in the pocket; two games of 100 seconds each, in both it is the turn of side 0. */
    private static MinuteBank playing() {
        MinuteBank bank = two();
        bank.buy(0, 1000);
        bank.buy(1, 1000);
        bank.begin(0, 1, 100, 7, 2, 50);
        bank.begin(1, 0, 100, 7, 2, 50);
        return bank;
    }

    private static MinuteBank withGames(int games) {
        MinuteBank bank = two();
        for (int i = 0; i < games; i++) {
            bank.begin(i % 2, 1 - i % 2, 9, 0, 0, 5);
        }
        return bank;
    }

    /** The games 0 to 3 are stopped, won by side 1, won by side 0, and won by side 1 by the flag; 4 runs. */
    private static MinuteBank withEndedOnes() {
        MinuteBank bank = two();
        bank.buy(0, 1000);
        bank.buy(1, 1000);
        for (int i = 0; i < 3; i++) {
            bank.begin(0, 1, 100, 0, 0, 10);
        }
        bank.begin(0, 1, 3, 0, 0, 10);
        bank.begin(0, 1, 100, 0, 0, 10);
        bank.end(0, -1);
        bank.end(1, 0);
        bank.end(2, 1);
        bank.pass(3);
        return bank;
    }

    private static void refusesEndedOnes(Check.OfNumber call) {
        for (int game = 0; game <= 3; game++) {
            int ended = game;
            Check.refuses("game " + ended + " has ended", Check.STATE, GamesEdgesTest::withEndedOnes,
                    bank -> call.on(bank, ended));
        }
        MinuteBank bank = withEndedOnes();
        Check.holds("the one that runs is not refused", Check.kindThrownBy(() -> call.on(bank, 4)) == null);
        int[] due = {3, 2, 1, 2, 0};
        for (int game = 0; game <= 4; game++) {
            Check.same("how game " + game + " stands", due[game], withEndedOnes().game(game, 7));
        }
    }

    // "IndexOutOfBoundsException if there is no such player"
    private static void beginNumbers() {
        Check.answers("first and last", 0, GamesEdgesTest::two, bank -> bank.begin(0, 1, 9, 0, 0, 0));
        Check.answers("last and first", 0, GamesEdgesTest::two, bank -> bank.begin(1, 0, 9, 0, 0, 0));
        Check.refusesOutside("white", Check.INDEX, 0, 1, GamesEdgesTest::two, (bank, p) -> bank.begin(p, 1, 9, 0, 0, 0));
        Check.refusesOutside("black", Check.INDEX, 0, 1, GamesEdgesTest::two, (bank, p) -> bank.begin(0, p, 9, 0, 0, 0));
        Check.Start one = () -> Check.bankWith(1, 10000);
        Check.refuses("one player is too few", Check.INDEX, one, bank -> bank.begin(0, 1, 9, 0, 0, 0));
    }

    // "each is of two different players"; "IllegalArgumentException if both are the same"
    private static void beginWithTheSame() {
        Check.refuses("the first", Check.ARGUMENT, GamesEdgesTest::two, bank -> bank.begin(0, 0, 9, 0, 0, 0));
        Check.refuses("the last", Check.ARGUMENT, GamesEdgesTest::two, bank -> bank.begin(1, 1, 9, 0, 0, 0));
    }

    // "seconds is not 1 to 7200"
    private static void beginSeconds() {
        Check.answers("1", 0, GamesEdgesTest::two, bank -> bank.begin(0, 1, 1, 0, 0, 0));
        Check.answers("7200", 0, GamesEdgesTest::two, bank -> bank.begin(0, 1, 7200, 0, 0, 0));
        Check.refusesOutside("seconds", Check.ARGUMENT, 1, 7200, GamesEdgesTest::two,
                (bank, s) -> bank.begin(0, 1, s, 0, 0, 0));
        MinuteBank bank = two();
        bank.begin(0, 1, 1, 0, 0, 0);
        bank.begin(0, 1, 7200, 0, 0, 0);
        Check.game("the least", bank, 0, 0, 1, 1, 1, 0, 0, 0, 0, 0, 0, 0);
        Check.game("the most", bank, 1, 0, 1, 7200, 7200, 0, 0, 0, 0, 0, 0, 0);
    }

    // "increment .. is not 0 to 30"; "the side whose turn it is gets the increment on its clock"
    private static void beginIncrements() {
        Check.answers("0", 0, GamesEdgesTest::two, bank -> bank.begin(0, 1, 9, 0, 0, 0));
        Check.answers("30", 0, GamesEdgesTest::two, bank -> bank.begin(0, 1, 9, 30, 0, 0));
        Check.refusesOutside("increment", Check.ARGUMENT, 0, 30, GamesEdgesTest::two,
                (bank, i) -> bank.begin(0, 1, 9, i, 0, 0));
        MinuteBank bank = two();
        bank.begin(0, 1, 9, 0, 0, 0);
        bank.begin(0, 1, 9, 30, 0, 0);
        bank.press(0);
        bank.press(1);
        Check.same("0 on the clock", 9, bank.game(0, 2));
        Check.same("30 on the clock", 39, bank.game(1, 2));
        Check.same("none on the other one", 9, bank.game(1, 3));
    }

    // "delay is not 0 to 30"
    private static void beginDelays() {
        Check.answers("0", 0, GamesEdgesTest::two, bank -> bank.begin(0, 1, 9, 0, 0, 0));
        Check.answers("30", 0, GamesEdgesTest::two, bank -> bank.begin(0, 1, 9, 0, 30, 0));
        Check.refusesOutside("delay", Check.ARGUMENT, 0, 30, GamesEdgesTest::two,
                (bank, d) -> bank.begin(0, 1, 9, 0, d, 0));
    }

    // "or stake is not 0 to 10000"
    private static void beginStakes() {
        Check.answers("0", 0, GamesEdgesTest::two, bank -> bank.begin(0, 1, 9, 0, 0, 0));
        Check.answers("10000", 0, GamesEdgesTest::two, bank -> bank.begin(0, 1, 9, 0, 0, 10000));
        Check.refusesOutside("stake", Check.ARGUMENT, 0, 10000, () -> Check.bankWith(2, 1000000),
                (bank, s) -> bank.begin(0, 1, 9, 0, 0, s));
        MinuteBank bank = two();
        bank.begin(0, 1, 9, 0, 0, 0);
        Check.same("nothing is paid", 10000, bank.player(0, 0));
        bank.begin(0, 1, 9, 0, 0, 10000);
        Check.same("white pays all", 0, bank.player(0, 0));
        Check.same("black pays all", 0, bank.player(1, 0));
        Check.same("the stake of 0", 0, bank.game(0, 10));
        Check.same("the stake of 10000", 10000, bank.game(1, 10));
    }

    // "IllegalStateException if one of both does not have the stake"
    private static void beginWithAllCoins() {
        Check.Start poor = () -> {
            MinuteBank bank = new MinuteBank();
            bank.addPlayer(50);
            bank.addPlayer(49);
            bank.addPlayer(0);
            return bank;
        };
        Check.answers("white has just as many", 0, poor, bank -> bank.begin(1, 0, 9, 0, 0, 49));
        Check.answers("black has just as many", 0, poor, bank -> bank.begin(0, 1, 9, 0, 0, 49));
        Check.refuses("white lacks one", Check.STATE, poor, bank -> bank.begin(1, 0, 9, 0, 0, 50));
        Check.refuses("black lacks one", Check.STATE, poor, bank -> bank.begin(0, 1, 9, 0, 0, 50));
        Check.answers("0 of 0", 0, poor, bank -> bank.begin(2, 1, 9, 0, 0, 0));
        Check.refuses("1 of white's 0", Check.STATE, poor, bank -> bank.begin(2, 1, 9, 0, 0, 1));
        Check.refuses("1 of black's 0", Check.STATE, poor, bank -> bank.begin(1, 2, 9, 0, 0, 1));
    }

    // "There are at most 16"; "or there are 16"
    private static void sixteenGames() {
        Check.answers("the sixteenth", 15, () -> withGames(15), bank -> bank.begin(0, 1, 9, 0, 0, 0));
        Check.refuses("one more", Check.STATE, () -> withGames(16), bank -> bank.begin(0, 1, 9, 0, 0, 0));
        MinuteBank bank = withGames(16);
        Check.same("games", 16, bank.count(2));
        Check.same("that run", 16, bank.count(3));
        Check.game("the first", bank, 0, 0, 1, 9, 9, 0, 0, 0, 0, 0, 0, 5);
        Check.game("the last", bank, 15, 1, 0, 9, 9, 0, 0, 0, 0, 0, 0, 5);
        Check.same("all end", 16, bank.pass(9));
        Check.same("half are won by 0", 8, bank.player(0, 3));
        Check.same("half are lost by 0", 8, bank.player(0, 4));
    }

    // "(those that have ended, too)"
    private static void sixteenEndedGames() {
        Check.Start ended = () -> {
            MinuteBank bank = withGames(16);
            for (int g = 0; g < 16; g++) {
                bank.end(g, g % 3 - 1);
            }
            return bank;
        };
        Check.same("none runs", 0, ended.make().count(3));
        Check.same("all are there", 16, ended.make().count(2));
        Check.refuses("one more", Check.STATE, ended, bank -> bank.begin(0, 1, 9, 0, 0, 0));
    }

    // "it is with nobody as long as the game runs"
    private static void stakeIsWithNobody() {
        MinuteBank bank = two();
        bank.begin(0, 1, 9, 0, 0, 1000);
        bank.pass(8);
        Check.same("white", 9000, bank.player(0, 0));
        Check.same("black", 9000, bank.player(1, 0));
        Check.same("the bank", 0, bank.count(7));
    }

    // "twice the stake less a tenth of it (of twice the stake, cut), which the bank keeps"
    private static void tenthIsCut() {
        int[] stakes = {0, 1, 4, 5, 9, 10, 9999, 10000};
        int[] kept = {0, 0, 0, 1, 1, 2, 1999, 2000};
        for (int i = 0; i < stakes.length; i++) {
            int stake = stakes[i];
            int won = 2 * stake - kept[i];
            Check.Start start = () -> {
                MinuteBank bank = two();
                bank.begin(0, 1, 9, 0, 0, stake);
                return bank;
            };
            Check.answers("black wins, stake " + stake, won, start, bank -> bank.end(0, 0));
            Check.answers("white wins, stake " + stake, won, start, bank -> bank.end(0, 1));
            Check.answers("it is stopped, stake " + stake, 0, start, bank -> bank.end(0, -1));
            stakesArePaid("stake " + stake, start.make(), stake, kept[i]);
            stakesAreGivenBack("stake " + stake, start.make());
        }
    }

    private static void stakesArePaid(String what, MinuteBank bank, int stake, int kept) {
        bank.pass(9);
        Check.same(what + ", who lost", 10000 - stake, bank.player(0, 0));
        Check.same(what + ", who won", 10000 + stake - kept, bank.player(1, 0));
        Check.same(what + ", the bank", kept, bank.count(7));
    }

    // "of a stopped one both get the stake back"
    private static void stakesAreGivenBack(String what, MinuteBank bank) {
        bank.end(0, -1);
        Check.player(what + ", stopped, white", bank, 0, 10000, 0, 0, 0, 0, 0, 0, 0);
        Check.player(what + ", stopped, black", bank, 1, 10000, 0, 0, 0, 0, 0, 0, 0);
        Check.same(what + ", stopped, the bank", 0, bank.count(7));
    }

    // "IndexOutOfBoundsException if there is no such game"
    private static void pressNumbers() {
        Check.answers("the first", 1, GamesEdgesTest::playing, bank -> bank.press(0));
        Check.answers("the last", 1, GamesEdgesTest::playing, bank -> bank.press(1));
        Check.refusesOutside("press", Check.INDEX, 0, 1, GamesEdgesTest::playing, MinuteBank::press);
        Check.refusesOutside("of none", Check.INDEX, 0, -1, GamesEdgesTest::two, MinuteBank::press);
        Check.answers("the last of 16", 1, () -> withGames(16), bank -> bank.press(15));
        Check.refusesOutside("of 16", Check.INDEX, 0, 15, () -> withGames(16), MinuteBank::press);
    }

    // "IllegalStateException if the game has ended"
    private static void pressEndedOnes() {
        refusesEndedOnes(MinuteBank::press);
    }

    // "it is the turn of the other one, for 0 seconds so far"
    private static void pressStartsTheTurnAt0() {
        MinuteBank bank = playing();
        bank.pass(2);
        Check.same("ahead", 2, bank.game(0, 6));
        bank.press(0);
        Check.same("behind", 0, bank.game(0, 6));
        bank.pass(2);
        Check.same("the delay begins anew", 100, bank.game(0, 3));
        bank.pass(1);
        Check.same("and ends", 99, bank.game(0, 3));
    }

    // "IndexOutOfBoundsException if there is no such game"
    private static void putNumbers() {
        Check.answers("the first", 101, GamesEdgesTest::playing, bank -> bank.put(0, 0, 1));
        Check.answers("the last", 101, GamesEdgesTest::playing, bank -> bank.put(1, 0, 1));
        Check.refusesOutside("put", Check.INDEX, 0, 1, GamesEdgesTest::playing, (bank, g) -> bank.put(g, 0, 1));
        Check.refusesOutside("of none", Check.INDEX, 0, -1, GamesEdgesTest::two, (bank, g) -> bank.put(g, 0, 1));
    }

    // "IllegalArgumentException if side is not 0 to 1"
    private static void putSides() {
        Check.answers("side 0", 105, GamesEdgesTest::playing, bank -> bank.put(0, 0, 5));
        Check.answers("side 1", 105, GamesEdgesTest::playing, bank -> bank.put(0, 1, 5));
        Check.refusesOutside("side", Check.ARGUMENT, 0, 1, GamesEdgesTest::playing, (bank, s) -> bank.put(0, s, 5));
    }

    // "or n is not 1 to 3600"
    private static void putAmounts() {
        Check.Start rich = () -> {
            MinuteBank bank = playing();
            bank.buy(0, 9000);
            return bank;
        };
        Check.answers("1", 101, rich, bank -> bank.put(0, 0, 1));
        Check.answers("3600", 3700, rich, bank -> bank.put(0, 0, 3600));
        Check.refusesOutside("n", Check.ARGUMENT, 1, 3600, rich, (bank, n) -> bank.put(0, 0, n));
    }

    // "or the pocket does not hold so many"
    private static void putOutOfThePocket() {
        Check.answers("1000 of 1000", 1100, GamesEdgesTest::playing, bank -> bank.put(0, 1, 1000));
        Check.refuses("1001 of 1000", Check.STATE, GamesEdgesTest::playing, bank -> bank.put(0, 1, 1001));
        MinuteBank bank = playing();
        bank.put(0, 1, 1000);
        Check.same("the pocket is empty", 0, bank.player(1, 1));
        Check.same("the other pocket is not", 1000, bank.player(0, 1));
        Check.Start empty = () -> {
            MinuteBank b = playing();
            b.put(0, 1, 1000);
            return b;
        };
        Check.refuses("1 of 0", Check.STATE, empty, b -> b.put(0, 1, 1));
        Check.refuses("1 of 0 in the other game", Check.STATE, empty, b -> b.put(1, 0, 1));
        Check.answers("1 of the other one's", 101, empty, b -> b.put(0, 0, 1));
    }

    // "IllegalStateException if the game has ended"
    private static void putEndedOnes() {
        refusesEndedOnes((bank, g) -> bank.put(g, 0, 1));
        refusesEndedOnes((bank, g) -> bank.put(g, 1, 1));
    }

    // "IndexOutOfBoundsException if there is no such game"
    private static void stealNumbers() {
        Check.answers("the first", 5, GamesEdgesTest::playing, bank -> bank.steal(0, 1, 5));
        Check.answers("the last", 5, GamesEdgesTest::playing, bank -> bank.steal(1, 1, 5));
        Check.refusesOutside("steal", Check.INDEX, 0, 1, GamesEdgesTest::playing, (bank, g) -> bank.steal(g, 1, 5));
        Check.refusesOutside("of none", Check.INDEX, 0, -1, GamesEdgesTest::two, (bank, g) -> bank.steal(g, 1, 5));
    }

    // "IllegalArgumentException if side is not 0 to 1"
    private static void stealSides() {
        Check.Start pressed = () -> {
            MinuteBank bank = playing();
            bank.press(0);
            return bank;
        };
        Check.answers("side 0", 5, pressed, bank -> bank.steal(0, 0, 5));
        Check.answers("side 1", 5, GamesEdgesTest::playing, bank -> bank.steal(0, 1, 5));
        Check.refusesOutside("side", Check.ARGUMENT, 0, 1, GamesEdgesTest::playing, (bank, s) -> bank.steal(0, s, 5));
        Check.refusesOutside("side", Check.ARGUMENT, 0, 1, pressed, (bank, s) -> bank.steal(0, s, 5));
    }

    // "or n is not 1 to 20"
    private static void stealAmounts() {
        Check.answers("1", 1, GamesEdgesTest::playing, bank -> bank.steal(0, 1, 1));
        Check.answers("20", 20, GamesEdgesTest::playing, bank -> bank.steal(0, 1, 20));
        Check.refusesOutside("n", Check.ARGUMENT, 1, 20, GamesEdgesTest::playing, (bank, n) -> bank.steal(0, 1, n));
    }

    private static void steals(int stolen, int clock, int n) {
        String what = n + " from a clock of " + clock;
        Check.Start start = () -> {
            MinuteBank bank = two();
            bank.begin(0, 1, clock, 0, 0, 0);
            return bank;
        };
        Check.answers(what, stolen, start, bank -> bank.steal(0, 1, n));
        MinuteBank bank = start.make();
        bank.steal(0, 1, n);
        Check.game(what, bank, 0, 0, 1, clock - stolen, clock + stolen, 0, 0, 0, 0, 0, stolen, 0);
    }

    // "at most what the other clock holds, less 1"
    private static void stealAtMostAllButOne() {
        steals(20, 22, 20);
        steals(20, 21, 20);
        steals(19, 20, 20);
        steals(5, 6, 5);
        steals(4, 5, 5);
        steals(1, 2, 1);
        steals(1, 2, 20);
        steals(0, 1, 1);
        steals(0, 1, 20);
    }

    // "or it is the turn of this side"
    private static void stealInItsTurn() {
        Check.refuses("side 0", Check.STATE, GamesEdgesTest::playing, bank -> bank.steal(0, 0, 5));
        Check.Start pressed = () -> {
            MinuteBank bank = playing();
            bank.press(0);
            return bank;
        };
        Check.refuses("side 1", Check.STATE, pressed, bank -> bank.steal(0, 1, 5));
        Check.refuses("side 0 of the other game", Check.STATE, pressed, bank -> bank.steal(1, 0, 5));
    }

    // "IllegalStateException if the game has ended"
    private static void stealEndedOnes() {
        refusesEndedOnes((bank, g) -> bank.steal(g, 1, 1));
    }

    // "IndexOutOfBoundsException if there is no such game"
    private static void endNumbers() {
        Check.answers("the first", 90, GamesEdgesTest::playing, bank -> bank.end(0, 0));
        Check.answers("the last", 90, GamesEdgesTest::playing, bank -> bank.end(1, 0));
        Check.refusesOutside("end", Check.INDEX, 0, 1, GamesEdgesTest::playing, (bank, g) -> bank.end(g, 0));
        Check.refusesOutside("of none", Check.INDEX, 0, -1, GamesEdgesTest::two, (bank, g) -> bank.end(g, 0));
    }

    // "IllegalArgumentException if side is not -1 to 1"
    private static void endSides() {
        Check.answers("side -1", 0, GamesEdgesTest::playing, bank -> bank.end(0, -1));
        Check.answers("side 0", 90, GamesEdgesTest::playing, bank -> bank.end(0, 0));
        Check.answers("side 1", 90, GamesEdgesTest::playing, bank -> bank.end(0, 1));
        Check.refusesOutside("side", Check.ARGUMENT, -1, 1, GamesEdgesTest::playing, (bank, s) -> bank.end(0, s));
    }

    // "IllegalStateException if the game has ended"
    private static void endEndedOnes() {
        refusesEndedOnes((bank, g) -> bank.end(g, -1));
        refusesEndedOnes((bank, g) -> bank.end(g, 0));
        refusesEndedOnes((bank, g) -> bank.end(g, 1));
    }

    // "IndexOutOfBoundsException if there is no such game"
    private static void gameNumbers() {
        Check.refusesOutside("of none", Check.INDEX, 0, -1, GamesEdgesTest::two, (bank, g) -> bank.game(g, 0));
        Check.refusesOutside("of two", Check.INDEX, 0, 1, GamesEdgesTest::playing, (bank, g) -> bank.game(g, 0));
        Check.refusesOutside("of 16", Check.INDEX, 0, 15, () -> withGames(16), (bank, g) -> bank.game(g, 0));
        Check.answers("the first", 0, () -> withGames(16), bank -> bank.game(0, 0));
        Check.answers("the last", 1, () -> withGames(16), bank -> bank.game(15, 0));
    }

    // "or what is not 0 to 10"
    private static void gameFacts() {
        Check.answers("what 0", 1, GamesEdgesTest::playing, bank -> bank.game(1, 0));
        Check.answers("what 10", 50, GamesEdgesTest::playing, bank -> bank.game(1, 10));
        Check.refusesOutside("what", Check.INDEX, 0, 10, GamesEdgesTest::playing, (bank, w) -> bank.game(1, w));
    }
}
