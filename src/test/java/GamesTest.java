/** Promises 9 to 14: begin, press, put, steal, end, game. */
public final class GamesTest {
    public static void main(String[] args) {
        begin();
        press();
        put();
        steal();
        end();
        Check.finish();
    }

    private static void begin() {
        MinuteBank bank = Check.bankWith(3, 10000);
        Check.same("first", 0, bank.begin(2, 0, 7200, 30, 30, 10000));
        Check.game("first", bank, 0, 2, 0, 7200, 7200, 0, 0, 0, 0, 0, 0, 10000);
        Check.player("white", bank, 2, 0, 0, 1, 0, 0, 0, 0, 0);
        Check.player("black", bank, 0, 0, 0, 1, 0, 0, 0, 0, 0);
        Check.player("neither", bank, 1, 10000, 0, 0, 0, 0, 0, 0, 0);
        Check.same("second", 1, bank.begin(0, 1, 1, 0, 0, 0));
        Check.game("second", bank, 1, 0, 1, 1, 1, 0, 0, 0, 0, 0, 0, 0);
        Check.counts("the bank gets nothing", bank, 0, 3, 2, 2, 0, 0, 100000, 0, 3, 0, 0);
    }

    private static void press() {
        MinuteBank bank = Check.bankWith(2, 0);
        bank.begin(1, 0, 100, 7, 2, 0);
        bank.pass(5);
        Check.game("ahead", bank, 0, 1, 0, 97, 100, 0, 0, 5, 0, 0, 0, 0);
        Check.same("first move", 1, bank.press(0));
        Check.game("first move", bank, 0, 1, 0, 104, 100, 1, 1, 0, 0, 0, 0, 0);
        bank.pass(3);
        Check.game("the delay anew", bank, 0, 1, 0, 104, 99, 1, 1, 3, 0, 0, 0, 0);
        Check.same("second move", 2, bank.press(0));
        Check.same("third move", 3, bank.press(0));
        Check.game("third move", bank, 0, 1, 0, 111, 106, 1, 3, 0, 0, 0, 0, 0);
    }

    private static void put() {
        MinuteBank bank = Check.bankWith(2, 10000);
        bank.buy(0, 3700);
        bank.buy(1, 10);
        bank.begin(1, 0, 100, 0, 0, 0);
        Check.same("on side 1", 3700, bank.put(0, 1, 3600));
        Check.same("on side 0", 103, bank.put(0, 0, 3));
        Check.same("white's pocket", 7, bank.player(1, 1));
        Check.same("black's pocket", 100, bank.player(0, 1));
        Check.same("the whole pocket", 110, bank.put(0, 0, 7));
        Check.game("clocks", bank, 0, 1, 0, 110, 3700, 0, 0, 0, 0, 0, 0, 0);
        Check.same("they are still out", 3710, bank.count(9));
    }

    private static void steal() {
        MinuteBank bank = Check.bankWith(2, 0);
        bank.begin(0, 1, 100, 0, 0, 0);
        Check.same("side 1", 20, bank.steal(0, 1, 20));
        Check.same("again", 1, bank.steal(0, 1, 1));
        Check.game("side 1", bank, 0, 0, 1, 79, 121, 0, 0, 0, 0, 0, 21, 0);
        bank.press(0);
        Check.same("side 0", 5, bank.steal(0, 0, 5));
        Check.game("side 0", bank, 0, 0, 1, 84, 116, 1, 1, 0, 0, 5, 21, 0);
    }

    private static void end() {
        MinuteBank bank = Check.bankWith(2, 1000);
        for (int i = 0; i < 3; i++) {
            bank.begin(0, 1, 100, 0, 0, 100);
        }
        Check.same("white gives up", 180, bank.end(0, 0));
        Check.game("white gives up", bank, 0, 0, 1, 100, 100, 0, 0, 0, 2, 0, 0, 100);
        Check.player("white", bank, 0, 700, 0, 2, 0, 1, 0, 0, 0);
        Check.player("black", bank, 1, 880, 0, 2, 1, 0, 0, 0, 0);
        Check.same("the bank", 20, bank.count(7));
        Check.same("it is stopped", 0, bank.end(1, -1));
        Check.game("it is stopped", bank, 1, 0, 1, 100, 100, 0, 0, 0, 3, 0, 0, 100);
        Check.player("white has it back", bank, 0, 800, 0, 1, 0, 1, 0, 0, 0);
        Check.player("black has it back", bank, 1, 980, 0, 1, 1, 0, 0, 0, 0);
        Check.same("the bank keeps nothing", 20, bank.count(7));
        Check.same("black gives up", 180, bank.end(2, 1));
        Check.game("black gives up", bank, 2, 0, 1, 100, 100, 0, 0, 0, 1, 0, 0, 100);
        Check.player("white", bank, 0, 980, 0, 0, 1, 1, 0, 0, 0);
        Check.player("black", bank, 1, 980, 0, 0, 1, 1, 0, 0, 0);
        Check.counts("none runs", bank, 0, 2, 3, 0, 0, 0, 100000, 40, 3, 0, 0);
        bank.pass(5);
        Check.game("its clocks stand", bank, 2, 0, 1, 100, 100, 0, 0, 0, 1, 0, 0, 100);
    }
}
