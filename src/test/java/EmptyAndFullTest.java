/** The bank with nothing in it, the bank with no room left, and the last call that is promised. */
public final class EmptyAndFullTest {
    public static void main(String[] args) {
        emptyBankAnswers();
        emptyBankRefuses();
        banksAreApart();
        fullBankAnswers();
        fullBankTakesNoMore();
        fullBankRefusesWhatIsOutside();
        fullBankGoesOn();
        fullBankIsFullWhenAllHasEnded();
        emptyReserve();
        lastCall();
        Check.finish();
    }

    /** 8 players, 16 games that all end at 130, 20 open loans that are due from 140 to 159: 44 calls. */
    static MinuteBank full() {
        MinuteBank bank = Check.bankWith(8, 1000);
        for (int g = 0; g < 16; g++) {
            bank.begin(g % 8, (g + 1) % 8, 100 + g, g, 30 - g, g);
        }
        for (int l = 0; l < 20; l++) {
            bank.borrow(l % 8, 10 + l, l, 140 + l);
        }
        return bank;
    }

    // "Creates a bank without players and games, at the time 0"
    private static void emptyBankAnswers() {
        MinuteBank bank = new MinuteBank();
        Check.counts("empty", bank, 0, 0, 0, 0, 0, 0, 100000, 0, 3, 0, 0);
        Check.sameMean("mean", 0.0, bank.mean());
        Check.same("the first that ends", -1, bank.foresee(2400, 0));
        Check.same("the time when it ends", -1, bank.foresee(2400, 1));
        Check.same("how many end", 0, bank.foresee(2400, 2));
        Check.same("how many become bad", 0, bank.foresee(2400, 3));
        Check.same("none ends", 0, bank.pass(1200));
        Check.counts("only the time goes on", bank, 1200, 0, 0, 0, 0, 0, 100000, 0, 3, 0, 0);
    }

    private static void emptyRefuses(String what, Check.Ask call) {
        Check.refuses(what + " of the empty bank", Check.INDEX, MinuteBank::new, call);
    }

    // "if there is no such player", "no such loan", "no such game", "not so many players"
    private static void emptyBankRefuses() {
        emptyRefuses("player", bank -> bank.player(0, 0));
        emptyRefuses("buy", bank -> bank.buy(0, 1));
        emptyRefuses("sell", bank -> bank.sell(0, 1));
        emptyRefuses("borrow", bank -> bank.borrow(0, 1, 0, 1));
        emptyRefuses("repay", bank -> bank.repay(0, 1));
        emptyRefuses("loan", bank -> bank.loan(0, 0));
        emptyRefuses("begin", bank -> bank.begin(0, 1, 1, 0, 0, 0));
        emptyRefuses("press", bank -> bank.press(0));
        emptyRefuses("put", bank -> bank.put(0, 0, 1));
        emptyRefuses("steal", bank -> bank.steal(0, 1, 1));
        emptyRefuses("end", bank -> bank.end(0, 0));
        emptyRefuses("game", bank -> bank.game(0, 0));
        emptyRefuses("leader", bank -> bank.leader(0));
        emptyRefuses("needs", bank -> bank.needs(0, 1));
    }

    // "Creates a bank": what one does is nothing to the other
    private static void banksAreApart() {
        MinuteBank one = full();
        MinuteBank other = new MinuteBank();
        one.pass(100);
        one.foresee(100, 0);
        Check.counts("empty", other, 0, 0, 0, 0, 0, 0, 100000, 0, 3, 0, 0);
        MinuteBank again = full();
        again.pass(100);
        Check.same("the same calls, the same answers", one.digest(), again.digest());
    }

    // "at most 8", "at most 16", "at most 20"
    private static void fullBankAnswers() {
        MinuteBank bank = full();
        Check.counts("full", bank, 0, 8, 16, 16, 20, 20, 100000 - 390, 0, 3, 390, 0);
        Check.player("the first player", bank, 0, 1000 - 0 - 7 - 8 - 15, 10 + 18 + 26, 4, 0, 0, 54, 0, 0);
        Check.player("the last player", bank, 7, 1000 - 6 - 7 - 14 - 15, 17 + 25, 4, 0, 0, 42, 0, 0);
        Check.loan("the last loan", bank, 19, 3, 29, 19, 159, 0);
        Check.game("the last game", bank, 15, 7, 0, 115, 115, 0, 0, 0, 0, 0, 0, 15);
        Check.sameMean("mean", 107.5, bank.mean());
        Check.same("the first place", 1, bank.leader(0));
        Check.same("the last place", 7, bank.leader(7));
        Check.same("needed in the games 7 and 15", 471 + 471, bank.needs(7, 600));
    }

    private static void fullRefuses(String what, Check.Ask call) {
        Check.refuses(what + " in the full bank", Check.STATE, EmptyAndFullTest::full, call);
    }

    private static void fullBankTakesNoMore() {
        fullRefuses("addPlayer", bank -> bank.addPlayer(0));
        fullRefuses("begin", bank -> bank.begin(0, 1, 1, 0, 0, 0));
        fullRefuses("borrow", bank -> bank.borrow(7, 1, 0, 1));
    }

    private static void fullRefusesNumber(String what, Check.Ask call) {
        Check.refuses(what + " of the full bank", Check.INDEX, EmptyAndFullTest::full, call);
    }

    private static void fullBankRefusesWhatIsOutside() {
        fullRefusesNumber("player", bank -> bank.player(8, 0));
        fullRefusesNumber("buy", bank -> bank.buy(8, 1));
        fullRefusesNumber("sell", bank -> bank.sell(8, 1));
        fullRefusesNumber("borrow", bank -> bank.borrow(8, 1, 0, 1));
        fullRefusesNumber("repay", bank -> bank.repay(20, 1));
        fullRefusesNumber("loan", bank -> bank.loan(20, 0));
        fullRefusesNumber("white", bank -> bank.begin(8, 1, 1, 0, 0, 0));
        fullRefusesNumber("black", bank -> bank.begin(0, 8, 1, 0, 0, 0));
        fullRefusesNumber("press", bank -> bank.press(16));
        fullRefusesNumber("put", bank -> bank.put(16, 0, 1));
        fullRefusesNumber("steal", bank -> bank.steal(16, 1, 1));
        fullRefusesNumber("end", bank -> bank.end(16, 0));
        fullRefusesNumber("game", bank -> bank.game(16, 0));
        fullRefusesNumber("leader", bank -> bank.leader(8));
        fullRefusesNumber("needs", bank -> bank.needs(8, 1));
    }

    private static void fullBankGoesOn() {
        MinuteBank bank = full();
        Check.same("the first that ends", 0, bank.foresee(200, 0));
        Check.same("the time when it ends", 130, bank.foresee(200, 1));
        Check.same("all end at once", 16, bank.foresee(200, 2));
        Check.same("each one's last loan becomes bad", 8, bank.foresee(200, 3));
        Check.same("all do", 16, bank.pass(200));
        Check.same("none runs", 0, bank.count(3));
        Check.same("no loan is open", 0, bank.count(5));
        Check.player("1 at each interest is more than the pocket", bank, 0, 970 + 13 + 27, 0, 0, 2, 2, 6, 1, 0);
        Check.same("a tenth of the stakes, cut each time", 5 * 1 + 5 * 2 + 3, bank.count(7));
    }

    // "(those that have ended, too)"; "(those that are closed, too)"
    private static void fullBankIsFullWhenAllHasEnded() {
        Check.Start ended = () -> {
            MinuteBank bank = full();
            bank.pass(200);
            return bank;
        };
        Check.refuses("a ninth player", Check.STATE, ended, bank -> bank.addPlayer(0));
        Check.refuses("a seventeenth game", Check.STATE, ended, bank -> bank.begin(0, 1, 1, 0, 0, 0));
        Check.refuses("a loan", Check.STATE, ended, bank -> bank.borrow(7, 1, 0, 1));
    }

    // "if the reserve does not hold so many"
    private static void emptyReserve() {
        Check.Start empty = () -> Check.bankWithReserve(0, 2);
        Check.counts("empty reserve", empty.make(), 0, 2, 0, 0, 0, 0, 0, 480010, 103, 100000, 0);
        Check.refuses("buy", Check.STATE, empty, bank -> bank.buy(1, 1));
        Check.refuses("borrow", Check.STATE, empty, bank -> bank.borrow(1, 1, 0, 1));
        Check.answers("sell", 51500, empty, bank -> bank.sell(0, 10000));
    }

    // "An object is used for at most 512 calls": the 512th answers as the first did
    private static void lastCall() {
        MinuteBank bank = full();
        for (int call = 45; call <= 509; call++) {
            bank.press(call % 16);
        }
        Check.same("call 510", -1, bank.foresee(1, 1));
        Check.same("call 511", 0, bank.pass(1));
        Check.same("call 512", 30, bank.press(0));
    }
}
