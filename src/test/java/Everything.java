import java.util.ArrayList;
import java.util.List;

/**
 * All that can be asked of a bank, and what comes of it when it goes on: two banks that answer the same
 * here are the same. It takes up to some 410 calls: a bank may have had 100 before.
 */
final class Everything {
    private static final int LAST_TIME = 20000;

    private final MinuteBank bank;
    private final List<String> answers = new ArrayList<>();

    private Everything(MinuteBank bank) {
        this.bank = bank;
    }

    /** The bank can't be used for anything else afterwards: seconds go by in it. */
    static List<String> of(MinuteBank bank) {
        Everything all = new Everything(bank);
        all.askCounts();
        all.askPlayers();
        all.askRows("loan", bank.count(4), 5, MinuteBank::loan);
        all.askRows("game", bank.count(2), 11, MinuteBank::game);
        all.askAhead();
        all.goOn();
        return all.answers;
    }

    private interface Row {
        long tell(MinuteBank bank, int number, int what);
    }

    private void ask(String call, Check.Ask ask) {
        answers.add(call + " = " + ask.on(bank));
    }

    private void askCounts() {
        for (int what = 0; what <= 10; what++) {
            int asked = what;
            ask("count(" + what + ")", b -> b.count(asked));
        }
    }

    private void askPlayers() {
        int players = bank.count(1);
        askRows("player", players, 8, MinuteBank::player);
        for (int p = 0; p < players; p++) {
            int player = p;
            ask("leader(" + p + ")", b -> b.leader(player));
            ask("needs(" + p + ", 600)", b -> b.needs(player, 600));
        }
    }

    private void askRows(String name, int rows, int facts, Row row) {
        for (int number = 0; number < rows; number++) {
            for (int what = 0; what < facts; what++) {
                int n = number;
                int w = what;
                ask(name + "(" + number + ", " + what + ")", b -> row.tell(b, n, w));
            }
        }
    }

    private void askAhead() {
        ask("mean(), its bits", b -> Double.doubleToLongBits(b.mean()));
        ask("digest()", MinuteBank::digest);
        int seconds = Math.min(2400, LAST_TIME - bank.count(0));
        for (int what = 0; what <= 3 && seconds > 0; what++) {
            int asked = what;
            ask("foresee(" + seconds + ", " + what + ")", b -> b.foresee(seconds, asked));
        }
    }

    /** What can't be asked, as increments and delays, shows in what comes. */
    private void goOn() {
        for (int g = 0; g < bank.count(2); g++) {
            int game = g;
            if (bank.game(g, 7) == 0) {
                ask("then press(" + g + ")", b -> b.press(game));
            }
        }
        int seconds = Math.min(600, LAST_TIME - bank.count(0));
        if (seconds > 0) {
            ask("then pass(" + seconds + ")", b -> b.pass(seconds));
        }
        ask("then digest()", MinuteBank::digest);
    }
}
