/** Promises 9 to 14: begin, press, put, steal, end, game. */
public final class GamesTest {
    public static void main(String[] args) {
        begin();
        beginRefuses();
        beginRefusesWithoutTheStake();
        beginRefusesASeventeenth();
        press();
        pressRefuses();
        put();
        putRefuses();
        steal();
        stealLeavesOne();
        stealRefuses();
        end();
        endKeepsATenthCut();
        endRefuses();
        gameRefuses();
        Check.finish();
    }

    private static void begin() {
        MinuteBank bank = Check.bankWith(3, 10000);
        Check.same("first", 0, bank.begin(2, 0, 7200, 30, 30, 10000));
        Check.game("first", bank, 0, 2, 0, 7200, 7200, 0, 0, 0, 0, 0, 0, 10000);
        Check.player("white", bank, 2, 0, 0, 1, 0, 0, 0, 0, 0);
        Check.player("black", bank, 0, 0, 0, 1, 0, 0, 0, 0, 0);
        Check.player("neither", bank, 1, 10000, 0, 0, 0, 0, 0, 0, 0);
        Check.same("second", 1, bank.begin(0, 1, 1, 0, 0, 0));
        Check.game("second", bank, 1, 0, 1, 1, 1, 0, 0, 0, 0, 0, 0, 0);
        Check.counts("the bank gets nothing", bank, 0, 3, 2, 2, 0, 0, 100000, 0, 3, 0, 0);
    }

    private static void beginRefuses() {
        MinuteBank bank = Check.bankWith(2, 20000);
        Check.refuses("white -1", Check.INDEX, bank, () -> bank.begin(-1, 1, 9, 0, 0, 0));
        Check.refuses("white 2", Check.INDEX, bank, () -> bank.begin(2, 1, 9, 0, 0, 0));
        Check.refuses("black -1", Check.INDEX, bank, () -> bank.begin(0, -1, 9, 0, 0, 0));
        Check.refuses("black 2", Check.INDEX, bank, () -> bank.begin(0, 2, 9, 0, 0, 0));
        Check.refuses("both 2", Check.INDEX, bank, () -> bank.begin(2, 2, 0, 0, 0, 0));
        Check.refuses("the same", Check.ARGUMENT, bank, () -> bank.begin(1, 1, 9, 0, 0, 0));
        Check.refuses("seconds 0", Check.ARGUMENT, bank, () -> bank.begin(0, 1, 0, 0, 0, 0));
        Check.refuses("seconds 7201", Check.ARGUMENT, bank, () -> bank.begin(0, 1, 7201, 0, 0, 0));
        Check.refuses("increment -1", Check.ARGUMENT, bank, () -> bank.begin(0, 1, 9, -1, 0, 0));
        Check.refuses("increment 31", Check.ARGUMENT, bank, () -> bank.begin(0, 1, 9, 31, 0, 0));
        Check.refuses("delay -1", Check.ARGUMENT, bank, () -> bank.begin(0, 1, 9, 0, -1, 0));
        Check.refuses("delay 31", Check.ARGUMENT, bank, () -> bank.begin(0, 1, 9, 0, 31, 0));
        Check.refuses("stake -1", Check.ARGUMENT, bank, () -> bank.begin(0, 1, 9, 0, 0, -1));
        Check.refuses("stake 10001", Check.ARGUMENT, bank, () -> bank.begin(0, 1, 9, 0, 0, 10001));
    }

    private static void beginRefusesWithoutTheStake() {
        MinuteBank bank = Check.bankWith(1, 50);
        bank.addPlayer(49);
        Check.refuses("black lacks one", Check.STATE, bank, () -> bank.begin(0, 1, 9, 0, 0, 50));
        Check.refuses("white lacks one", Check.STATE, bank, () -> bank.begin(1, 0, 9, 0, 0, 50));
        Check.refuses("too great a one", Check.ARGUMENT, bank, () -> bank.begin(0, 1, 9, 0, 0, 10001));
        Check.same("all coins", 0, bank.begin(1, 0, 9, 0, 0, 49));
        Check.same("white", 0, bank.player(1, 0));
        Check.same("black", 1, bank.player(0, 0));
    }

    private static void beginRefusesASeventeenth() {
        MinuteBank bank = Check.bankWith(2, 50);
        for (int i = 0; i < 16; i++) {
            Check.same("game", i, bank.begin(0, 1, 9, 0, 0, 0));
        }
        bank.end(3, -1);
        Check.refuses("one more", Check.STATE, bank, () -> bank.begin(0, 1, 9, 0, 0, 0));
        Check.refuses("one more of 0", Check.ARGUMENT, bank, () -> bank.begin(0, 1, 0, 0, 0, 0));
        Check.same("all", 16, bank.count(2));
        Check.same("running", 15, bank.count(3));
        Check.same("the last one is there", 9, bank.game(15, 2));
    }

    private static void press() {
        MinuteBank bank = Check.bankWith(2, 0);
        bank.begin(1, 0, 100, 7, 2, 0);
        bank.pass(5);
        Check.game("ahead", bank, 0, 1, 0, 97, 100, 0, 0, 5, 0, 0, 0, 0);
        Check.same("first move", 1, bank.press(0));
        Check.game("first move", bank, 0, 1, 0, 104, 100, 1, 1, 0, 0, 0, 0, 0);
        bank.pass(3);
        Check.game("the delay anew", bank, 0, 1, 0, 104, 99, 1, 1, 3, 0, 0, 0, 0);
        Check.same("second move", 2, bank.press(0));
        Check.same("third move", 3, bank.press(0));
        Check.game("third move", bank, 0, 1, 0, 111, 106, 1, 3, 0, 0, 0, 0, 0);
    }

    private static void pressRefuses() {
        MinuteBank bank = Check.bankWith(2, 0);
        bank.begin(1, 0, 2, 7, 0, 0);
        bank.begin(1, 0, 9, 7, 0, 0);
        Check.refuses("game -1", Check.INDEX, bank, () -> bank.press(-1));
        Check.refuses("game 2", Check.INDEX, bank, () -> bank.press(2));
        Check.refuses("game 16", Check.INDEX, bank, () -> bank.press(16));
        bank.pass(2);
        bank.end(1, -1);
        Check.refuses("a flag has fallen", Check.STATE, bank, () -> bank.press(0));
        Check.refuses("it was stopped", Check.STATE, bank, () -> bank.press(1));
    }

    private static void put() {
        MinuteBank bank = Check.bankWith(2, 10000);
        bank.buy(0, 3700);
        bank.buy(1, 10);
        bank.begin(1, 0, 100, 0, 0, 0);
        Check.same("on side 1", 3700, bank.put(0, 1, 3600));
        Check.same("on side 0", 103, bank.put(0, 0, 3));
        Check.same("white's pocket", 7, bank.player(1, 1));
        Check.same("black's pocket", 100, bank.player(0, 1));
        Check.same("the whole pocket", 110, bank.put(0, 0, 7));
        Check.game("clocks", bank, 0, 1, 0, 110, 3700, 0, 0, 0, 0, 0, 0, 0);
        Check.same("they are still out", 3710, bank.count(9));
    }

    private static void putRefuses() {
        MinuteBank bank = Check.bankWith(2, 10000);
        bank.buy(0, 5);
        bank.begin(0, 1, 100, 0, 0, 0);
        Check.refuses("game 1", Check.INDEX, bank, () -> bank.put(1, 2, 0));
        Check.refuses("game -1", Check.INDEX, bank, () -> bank.put(-1, 0, 1));
        Check.refuses("side -1", Check.ARGUMENT, bank, () -> bank.put(0, -1, 1));
        Check.refuses("side 2", Check.ARGUMENT, bank, () -> bank.put(0, 2, 1));
        Check.refuses("n 0", Check.ARGUMENT, bank, () -> bank.put(0, 0, 0));
        Check.refuses("n 3601", Check.ARGUMENT, bank, () -> bank.put(0, 0, 3601));
        Check.refuses("one too many", Check.STATE, bank, () -> bank.put(0, 0, 6));
        Check.refuses("the other's pocket is empty", Check.STATE, bank, () -> bank.put(0, 1, 1));
        bank.end(0, 0);
        Check.refuses("it has ended", Check.STATE, bank, () -> bank.put(0, 0, 1));
        Check.refuses("it has ended, n 0", Check.ARGUMENT, bank, () -> bank.put(0, 0, 0));
    }

    private static void steal() {
        MinuteBank bank = Check.bankWith(2, 0);
        bank.begin(0, 1, 100, 0, 0, 0);
        Check.same("side 1", 20, bank.steal(0, 1, 20));
        Check.same("again", 1, bank.steal(0, 1, 1));
        Check.game("side 1", bank, 0, 0, 1, 79, 121, 0, 0, 0, 0, 0, 21, 0);
        bank.press(0);
        Check.same("side 0", 5, bank.steal(0, 0, 5));
        Check.game("side 0", bank, 0, 0, 1, 84, 116, 1, 1, 0, 0, 5, 21, 0);
    }

    private static void stealLeavesOne() {
        MinuteBank bank = Check.bankWith(2, 0);
        bank.begin(0, 1, 15, 0, 0, 0);
        Check.same("all but one", 14, bank.steal(0, 1, 20));
        Check.game("all but one", bank, 0, 0, 1, 1, 29, 0, 0, 0, 0, 0, 14, 0);
        Check.same("nothing to steal", 0, bank.steal(0, 1, 20));
        Check.game("nothing to steal", bank, 0, 0, 1, 1, 29, 0, 0, 0, 0, 0, 14, 0);
        bank.begin(0, 1, 15, 0, 0, 0);
        Check.same("just all but one", 14, bank.steal(1, 1, 14));
    }

    private static void stealRefuses() {
        MinuteBank bank = Check.bankWith(2, 0);
        bank.begin(0, 1, 100, 0, 0, 0);
        Check.refuses("game 1", Check.INDEX, bank, () -> bank.steal(1, 2, 0));
        Check.refuses("game -1", Check.INDEX, bank, () -> bank.steal(-1, 0, 1));
        Check.refuses("side -1", Check.ARGUMENT, bank, () -> bank.steal(0, -1, 1));
        Check.refuses("side 2", Check.ARGUMENT, bank, () -> bank.steal(0, 2, 1));
        Check.refuses("n 0", Check.ARGUMENT, bank, () -> bank.steal(0, 1, 0));
        Check.refuses("n 21", Check.ARGUMENT, bank, () -> bank.steal(0, 1, 21));
        Check.refuses("its turn", Check.STATE, bank, () -> bank.steal(0, 0, 1));
        Check.refuses("its turn, n 21", Check.ARGUMENT, bank, () -> bank.steal(0, 0, 21));
        bank.press(0);
        Check.refuses("its turn now", Check.STATE, bank, () -> bank.steal(0, 1, 1));
        bank.end(0, -1);
        Check.refuses("it has ended", Check.STATE, bank, () -> bank.steal(0, 0, 1));
    }

    private static void end() {
        MinuteBank bank = Check.bankWith(2, 1000);
        for (int i = 0; i < 3; i++) {
            bank.begin(0, 1, 100, 0, 0, 100);
        }
        Check.same("white gives up", 180, bank.end(0, 0));
        Check.game("white gives up", bank, 0, 0, 1, 100, 100, 0, 0, 0, 2, 0, 0, 100);
        Check.player("white", bank, 0, 700, 0, 2, 0, 1, 0, 0, 0);
        Check.player("black", bank, 1, 880, 0, 2, 1, 0, 0, 0, 0);
        Check.same("the bank", 20, bank.count(7));
        Check.same("it is stopped", 0, bank.end(1, -1));
        Check.game("it is stopped", bank, 1, 0, 1, 100, 100, 0, 0, 0, 3, 0, 0, 100);
        Check.player("white has it back", bank, 0, 800, 0, 1, 0, 1, 0, 0, 0);
        Check.player("black has it back", bank, 1, 980, 0, 1, 1, 0, 0, 0, 0);
        Check.same("the bank keeps nothing", 20, bank.count(7));
        Check.same("black gives up", 180, bank.end(2, 1));
        Check.game("black gives up", bank, 2, 0, 1, 100, 100, 0, 0, 0, 1, 0, 0, 100);
        Check.player("white", bank, 0, 980, 0, 0, 1, 1, 0, 0, 0);
        Check.player("black", bank, 1, 980, 0, 0, 1, 1, 0, 0, 0);
        Check.counts("none runs", bank, 0, 2, 3, 0, 0, 0, 100000, 40, 3, 0, 0);
        bank.pass(5);
        Check.game("its clocks stand", bank, 2, 0, 1, 100, 100, 0, 0, 0, 1, 0, 0, 100);
    }

    private static void endKeepsATenthCut() {
        MinuteBank bank = Check.bankWith(2, 100);
        bank.begin(0, 1, 100, 0, 0, 4);
        bank.begin(0, 1, 100, 0, 0, 5);
        bank.begin(0, 1, 100, 0, 0, 9);
        bank.begin(0, 1, 100, 0, 0, 0);
        Check.same("of 8", 8, bank.end(0, 1));
        Check.same("of 10", 9, bank.end(1, 1));
        Check.same("of 18", 17, bank.end(2, 1));
        Check.same("of 0", 0, bank.end(3, 1));
        Check.same("the bank", 2, bank.count(7));
    }

    private static void endRefuses() {
        MinuteBank bank = Check.bankWith(2, 100);
        bank.begin(0, 1, 100, 0, 0, 4);
        Check.refuses("game 1", Check.INDEX, bank, () -> bank.end(1, 5));
        Check.refuses("game -1", Check.INDEX, bank, () -> bank.end(-1, 0));
        Check.refuses("side -2", Check.ARGUMENT, bank, () -> bank.end(0, -2));
        Check.refuses("side 2", Check.ARGUMENT, bank, () -> bank.end(0, 2));
        bank.end(0, -1);
        Check.refuses("stop it again", Check.STATE, bank, () -> bank.end(0, -1));
        Check.refuses("give up too late", Check.STATE, bank, () -> bank.end(0, 0));
        Check.refuses("side 2 too late", Check.ARGUMENT, bank, () -> bank.end(0, 2));
    }

    private static void gameRefuses() {
        MinuteBank bank = Check.bankWith(2, 100);
        bank.begin(0, 1, 100, 0, 0, 4);
        Check.refuses("game 1", Check.INDEX, bank, () -> bank.game(1, 0));
        Check.refuses("game -1", Check.INDEX, bank, () -> bank.game(-1, 0));
        Check.refuses("game 16", Check.INDEX, bank, () -> bank.game(16, 0));
        Check.refuses("what -1", Check.INDEX, bank, () -> bank.game(0, -1));
        Check.refuses("what 11", Check.INDEX, bank, () -> bank.game(0, 11));
    }
}
