/**
 * "If several exceptions apply, the one that is named first is thrown": each two of a method's exceptions, and
 * all three where they can meet. "A method that throws an exception changes nothing" is looked at each time.
 */
public final class FirstNamedTest {
    public static void main(String[] args) {
        addPlayer();
        buy();
        sell();
        borrow();
        repay();
        begin();
        put();
        steal();
        end();
        pass();
        foresee();
        needs();
        Check.finish();
    }

    private static void index(String what, Check.Start start, Check.Ask call) {
        Check.refuses(what, Check.INDEX, start, call);
    }

    private static void argument(String what, Check.Start start, Check.Ask call) {
        Check.refuses(what, Check.ARGUMENT, start, call);
    }

    private static MinuteBank poor() {
        return Check.bankWith(2, 0);
    }

    private static MinuteBank atTheLastSecond() {
        MinuteBank bank = Check.bankWith(2, 100);
        Check.passMany(bank, 20000);
        return bank;
    }

    private static void addPlayer() {
        Check.Start full = () -> Check.bankWith(8, 5);
        argument("coins ahead of the eight", full, bank -> bank.addPlayer(-1));
        argument("coins ahead of the eight", full, bank -> bank.addPlayer(1000001));
    }

    private static void buy() {
        index("player ahead of n", FirstNamedTest::poor, bank -> bank.buy(2, 0));
        index("player ahead of n", FirstNamedTest::poor, bank -> bank.buy(-1, 10001));
        Check.Start empty = () -> Check.bankWithReserve(0, 2);
        index("player ahead of the reserve", empty, bank -> bank.buy(2, 1));
        index("player ahead of all", empty, bank -> bank.buy(2, 10001));
        argument("n ahead of the reserve", empty, bank -> bank.buy(1, 10001));
        argument("n ahead of the reserve", empty, bank -> bank.buy(1, 0));
        argument("n ahead of the coins", FirstNamedTest::poor, bank -> bank.buy(0, 10001));
        argument("n ahead of the coins", FirstNamedTest::poor, bank -> bank.buy(0, 0));
    }

    private static void sell() {
        index("player ahead of n", FirstNamedTest::poor, bank -> bank.sell(2, 0));
        index("player ahead of the pocket", FirstNamedTest::poor, bank -> bank.sell(-1, 1));
        index("player ahead of all", FirstNamedTest::poor, bank -> bank.sell(-1, 10001));
        argument("n ahead of the pocket", FirstNamedTest::poor, bank -> bank.sell(0, 10001));
        argument("n ahead of the pocket", FirstNamedTest::poor, bank -> bank.sell(0, 0));
        Check.Start bankIsPoor = () -> {
            MinuteBank bank = poor();
            for (int i = 0; i < 3; i++) {
                bank.borrow(0, 5000, 0, 3600);
            }
            return bank;
        };
        argument("n ahead of the bank's coins", bankIsPoor, bank -> bank.sell(0, 10001));
    }

    private static MinuteBank threeOpen() {
        MinuteBank bank = poor();
        for (int i = 0; i < 3; i++) {
            bank.borrow(0, 5, 0, 50);
        }
        return bank;
    }

    private static MinuteBank oneBad() {
        MinuteBank bank = poor();
        bank.borrow(0, 5, 0, 2);
        Check.lose(bank, 0, 1, 5);
        bank.pass(2);
        return bank;
    }

    private static void borrow() {
        Check.Start empty = () -> Check.bankWithReserve(0, 2);
        Check.Start[] starts = {empty, FirstNamedTest::threeOpen, FirstNamedTest::oneBad, EmptyAndFullTest::full};
        for (Check.Start start : starts) {
            index("player ahead of n", start, bank -> bank.borrow(8, 0, 0, 1));
            index("player ahead of the rate", start, bank -> bank.borrow(-1, 1, 101, 1));
            index("player ahead of the seconds", start, bank -> bank.borrow(8, 1, 0, 0));
            index("player ahead of what the bank lacks", start, bank -> bank.borrow(8, 1, 0, 1));
            argument("n ahead of what the bank lacks", start, bank -> bank.borrow(0, 5001, 0, 1));
            argument("rate ahead of what the bank lacks", start, bank -> bank.borrow(0, 1, -1, 1));
            argument("seconds ahead of what the bank lacks", start, bank -> bank.borrow(0, 1, 0, 3601));
        }
    }

    private static void repay() {
        Check.Start closed = () -> {
            MinuteBank bank = poor();
            bank.borrow(0, 5, 0, 50);
            bank.repay(0, 5);
            return bank;
        };
        index("loan ahead of n", closed, bank -> bank.repay(1, 0));
        index("loan ahead of n", closed, bank -> bank.repay(-1, 1000001));
        argument("n ahead of a closed one", closed, bank -> bank.repay(0, 0));
        argument("n ahead of a closed one", closed, bank -> bank.repay(0, 1000001));
    }

    private static void begin() {
        index("no such two ahead of the same", FirstNamedTest::poor, bank -> bank.begin(2, 2, 9, 0, 0, 0));
        index("white ahead of the seconds", FirstNamedTest::poor, bank -> bank.begin(2, 1, 0, 0, 0, 0));
        index("black ahead of the seconds", FirstNamedTest::poor, bank -> bank.begin(0, -1, 7201, 0, 0, 0));
        index("black ahead of the increment", FirstNamedTest::poor, bank -> bank.begin(0, 2, 9, 31, 0, 0));
        index("black ahead of the delay", FirstNamedTest::poor, bank -> bank.begin(0, 2, 9, 0, 31, 0));
        index("black ahead of the stake", FirstNamedTest::poor, bank -> bank.begin(0, 2, 9, 0, 0, 10001));
        index("black ahead of the coins", FirstNamedTest::poor, bank -> bank.begin(0, 2, 9, 0, 0, 1));
        argument("the same ahead of the coins", FirstNamedTest::poor, bank -> bank.begin(0, 0, 9, 0, 0, 1));
        argument("seconds ahead of the coins", FirstNamedTest::poor, bank -> bank.begin(0, 1, 0, 0, 0, 1));
        argument("increment ahead of the coins", FirstNamedTest::poor, bank -> bank.begin(0, 1, 9, -1, 0, 1));
        argument("delay ahead of the coins", FirstNamedTest::poor, bank -> bank.begin(0, 1, 9, 0, -1, 1));
        argument("stake ahead of the coins", FirstNamedTest::poor, bank -> bank.begin(0, 1, 9, 0, 0, 10001));
        Check.Start full = EmptyAndFullTest::full;
        index("white ahead of the sixteen", full, bank -> bank.begin(8, 1, 9, 0, 0, 0));
        index("black ahead of the sixteen", full, bank -> bank.begin(0, 8, 9, 0, 0, 0));
        argument("the same ahead of the sixteen", full, bank -> bank.begin(0, 0, 9, 0, 0, 0));
        argument("seconds ahead of the sixteen", full, bank -> bank.begin(0, 1, 7201, 0, 0, 0));
        argument("increment ahead of the sixteen", full, bank -> bank.begin(0, 1, 9, 31, 0, 0));
        argument("delay ahead of the sixteen", full, bank -> bank.begin(0, 1, 9, 0, 31, 0));
        argument("stake ahead of the sixteen", full, bank -> bank.begin(0, 1, 9, 0, 0, -1));
    }

    /** Game 0 runs, with empty pockets; game 1 has ended. */
    private static MinuteBank playing() {
        MinuteBank bank = poor();
        bank.begin(0, 1, 100, 0, 0, 0);
        bank.begin(0, 1, 100, 0, 0, 0);
        bank.end(1, -1);
        return bank;
    }

    private static void put() {
        index("game ahead of the side", FirstNamedTest::playing, bank -> bank.put(2, 2, 1));
        index("game ahead of n", FirstNamedTest::playing, bank -> bank.put(-1, 0, 0));
        argument("side ahead of the end", FirstNamedTest::playing, bank -> bank.put(1, -1, 1));
        argument("n ahead of the end", FirstNamedTest::playing, bank -> bank.put(1, 0, 3601));
        argument("side ahead of the pocket", FirstNamedTest::playing, bank -> bank.put(0, 2, 1));
        argument("n ahead of the pocket", FirstNamedTest::playing, bank -> bank.put(0, 0, 3601));
        argument("n ahead of the pocket", FirstNamedTest::playing, bank -> bank.put(0, 1, 0));
    }

    private static void steal() {
        index("game ahead of the side", FirstNamedTest::playing, bank -> bank.steal(2, 2, 1));
        index("game ahead of n", FirstNamedTest::playing, bank -> bank.steal(-1, 1, 0));
        argument("side ahead of the end", FirstNamedTest::playing, bank -> bank.steal(1, 2, 1));
        argument("n ahead of the end", FirstNamedTest::playing, bank -> bank.steal(1, 1, 21));
        argument("n ahead of the turn", FirstNamedTest::playing, bank -> bank.steal(0, 0, 0));
        argument("n ahead of the turn", FirstNamedTest::playing, bank -> bank.steal(0, 0, 21));
    }

    private static void end() {
        index("game ahead of the side", FirstNamedTest::playing, bank -> bank.end(2, 2));
        index("game ahead of the side", FirstNamedTest::playing, bank -> bank.end(-1, -2));
        argument("side ahead of the end", FirstNamedTest::playing, bank -> bank.end(1, 2));
        argument("side ahead of the end", FirstNamedTest::playing, bank -> bank.end(1, -2));
    }

    private static void pass() {
        argument("seconds ahead of the time", FirstNamedTest::atTheLastSecond, bank -> bank.pass(0));
        argument("seconds ahead of the time", FirstNamedTest::atTheLastSecond, bank -> bank.pass(1201));
        argument("seconds ahead of the time", FirstNamedTest::atTheLastSecond, bank -> bank.pass(Integer.MAX_VALUE));
    }

    private static void foresee() {
        argument("seconds ahead of what", FirstNamedTest::playing, bank -> bank.foresee(0, 4));
        argument("seconds ahead of what", FirstNamedTest::playing, bank -> bank.foresee(2401, -1));
        argument("seconds ahead of the time", FirstNamedTest::atTheLastSecond, bank -> bank.foresee(2401, 0));
        argument("seconds ahead of all", FirstNamedTest::atTheLastSecond, bank -> bank.foresee(2401, 4));
        index("what ahead of the time", FirstNamedTest::atTheLastSecond, bank -> bank.foresee(1, 4));
        index("what ahead of the time", FirstNamedTest::atTheLastSecond, bank -> bank.foresee(2400, -1));
    }

    private static void needs() {
        index("player ahead of the seconds", FirstNamedTest::playing, bank -> bank.needs(2, 0));
        index("player ahead of the seconds", FirstNamedTest::playing, bank -> bank.needs(-1, 601));
    }
}
