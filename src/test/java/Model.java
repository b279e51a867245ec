import java.math.BigInteger;
import java.util.ArrayList;
import java.util.Comparator;
import java.util.List;

/**
 * The document once more, as slow and plain as it goes: rows of numbers, each second by itself, seconds
 * out counted by themselves. It shares nothing with MinuteBank, so that an error in the one shows.
 */
final class Model {
    // A player's row.
    private static final int COINS = 0;
    private static final int POCKET = 1;
    private static final int WON = 2;
    private static final int LOST = 3;
    private static final int CAUGHT = 4;

    // A loan's row; its status is as loan() tells it.
    private static final int DEBTOR = 0;
    private static final int OWED = 1;
    private static final int RATE = 2;
    private static final int DUE = 3;
    private static final int STATUS = 4;

    // A game's row, up to the stake as game() tells it.
    private static final int SIDE = 0;
    private static final int CLOCK = 2;
    private static final int TURN = 4;
    private static final int MOVES = 5;
    private static final int USED = 6;
    private static final int RESULT = 7;
    private static final int STOLEN = 8;
    private static final int STAKE = 10;
    private static final int INCREMENT = 11;
    private static final int DELAY = 12;

    private final List<long[]> players = new ArrayList<>();
    private final List<long[]> loans = new ArrayList<>();
    private final List<long[]> games = new ArrayList<>();
    private long time = 0;
    private long reserve = 100000;
    private long bankCoins = 0;
    private long sold = 0;
    private long lent = 0;
    private long boughtBack = 0;
    private long paidBack = 0;

    private Model twin() {
        Model twin = new Model();
        copyRows(players, twin.players);
        copyRows(loans, twin.loans);
        copyRows(games, twin.games);
        twin.time = time;
        twin.reserve = reserve;
        twin.bankCoins = bankCoins;
        twin.sold = sold;
        twin.lent = lent;
        twin.boughtBack = boughtBack;
        twin.paidBack = paidBack;
        return twin;
    }

    private static void copyRows(List<long[]> from, List<long[]> to) {
        for (long[] row : from) {
            to.add(row.clone());
        }
    }

    private static void index(boolean right) {
        if (!right) {
            throw new IndexOutOfBoundsException();
        }
    }

    private static void argument(boolean right) {
        if (!right) {
            throw new IllegalArgumentException();
        }
    }

    private static void state(boolean right) {
        if (!right) {
            throw new IllegalStateException();
        }
    }

    private static boolean within(long x, long least, long most) {
        return least <= x && x <= most;
    }

    private static long[] row(List<long[]> rows, int number) {
        index(within(number, 0, rows.size() - 1));
        return rows.get(number);
    }

    private long out() {
        return sold + lent - boughtBack - paidBack;
    }

    private long price() {
        return out() < 0 ? 3 : 3 + out() / 1000;
    }

    // ---- players

    long addPlayer(int coins) {
        argument(within(coins, 0, 1000000));
        state(players.size() < 8);
        players.add(new long[] {coins, 0, 0, 0, 0});
        return players.size() - 1;
    }

    long player(int player, int what) {
        long[] row = row(players, player);
        index(within(what, 0, 7));
        long[] told = {
            row[COINS], row[POCKET], running(player), row[WON], row[LOST], owed(player),
            loansOf(player, 2), row[CAUGHT],
        };
        return told[what];
    }

    private long running(int player) {
        return games.stream().filter(g -> g[RESULT] == 0 && (g[SIDE] == player || g[SIDE + 1] == player)).count();
    }

    private long owed(int player) {
        return loans.stream().filter(l -> l[DEBTOR] == player && l[STATUS] != 1).mapToLong(l -> l[OWED]).sum();
    }

    private long loansOf(int player, int status) {
        return loans.stream().filter(l -> l[DEBTOR] == player && l[STATUS] == status).count();
    }

    long buy(int player, int n) {
        long[] row = row(players, player);
        argument(within(n, 1, 10000));
        long cost = n * price() / 10 + 1;
        state(reserve >= n && row[COINS] >= cost);
        row[COINS] -= cost;
        bankCoins += cost;
        reserve -= n;
        sold += n;
        row[POCKET] += n;
        return cost;
    }

    long sell(int player, int n) {
        long[] row = row(players, player);
        argument(within(n, 1, 10000));
        long gain = n * price() / 20;
        state(row[POCKET] >= n && bankCoins >= gain);
        row[COINS] += gain;
        bankCoins -= gain;
        reserve += n;
        boughtBack += n;
        row[POCKET] -= n;
        return gain;
    }

    // ---- loans

    long borrow(int player, int n, int rate, int seconds) {
        long[] row = row(players, player);
        argument(within(n, 1, 5000) && within(rate, 0, 100) && within(seconds, 1, 3600));
        state(reserve >= n && loansOf(player, 2) == 0 && loansOf(player, 0) < 3 && loans.size() < 20);
        loans.add(new long[] {player, n, rate, time + seconds, 0});
        reserve -= n;
        lent += n;
        row[POCKET] += n;
        return loans.size() - 1;
    }

    long repay(int loan, int n) {
        long[] row = row(loans, loan);
        argument(within(n, 1, 1000000));
        state(row[STATUS] != 1);
        long[] debtor = players.get((int) row[DEBTOR]);
        long paid = Math.min(n, Math.min(row[OWED], debtor[POCKET]));
        debtor[POCKET] -= paid;
        payBack(row, paid);
        if (row[OWED] == 0) {
            row[STATUS] = 1;
        }
        return paid;
    }

    private void payBack(long[] loan, long n) {
        loan[OWED] -= n;
        reserve += n;
        paidBack += n;
    }

    long loan(int loan, int what) {
        long[] row = row(loans, loan);
        index(within(what, 0, 4));
        return row[what];
    }

    // ---- games

    long begin(int white, int black, int seconds, int increment, int delay, int stake) {
        long[] first = row(players, white);
        long[] second = row(players, black);
        argument(white != black && within(seconds, 1, 7200) && within(increment, 0, 30));
        argument(within(delay, 0, 30) && within(stake, 0, 10000));
        state(first[COINS] >= stake && second[COINS] >= stake && games.size() < 16);
        first[COINS] -= stake;
        second[COINS] -= stake;
        games.add(new long[] {white, black, seconds, seconds, 0, 0, 0, 0, 0, 0, stake, increment, delay});
        return games.size() - 1;
    }

    long press(int game) {
        long[] row = row(games, game);
        state(row[RESULT] == 0);
        row[CLOCK + (int) row[TURN]] += row[INCREMENT];
        row[TURN] = row[TURN] == 0 ? 1 : 0;
        row[USED] = 0;
        row[MOVES] += 1;
        return row[MOVES];
    }

    long put(int game, int side, int n) {
        long[] row = row(games, game);
        argument(within(side, 0, 1) && within(n, 1, 3600));
        state(row[RESULT] == 0);
        long[] player = players.get((int) row[SIDE + side]);
        state(player[POCKET] >= n);
        player[POCKET] -= n;
        row[CLOCK + side] += n;
        return row[CLOCK + side];
    }

    long steal(int game, int side, int n) {
        long[] row = row(games, game);
        argument(within(side, 0, 1) && within(n, 1, 20));
        state(row[RESULT] == 0 && row[TURN] != side);
        long stolen = moveTime(row, 1 - side, n);
        row[STOLEN + side] += stolen;
        return stolen;
    }

    /** From the clock of a side, which keeps 1, to the other clock. */
    private static long moveTime(long[] game, int side, long n) {
        long moved = Math.min(n, game[CLOCK + side] - 1);
        game[CLOCK + side] -= moved;
        game[CLOCK + 1 - side] += moved;
        return moved;
    }

    long end(int game, int side) {
        long[] row = row(games, game);
        argument(within(side, -1, 1));
        state(row[RESULT] == 0);
        if (side != -1) {
            return win(row, 1 - side);
        }
        row[RESULT] = 3;
        players.get((int) row[SIDE])[COINS] += row[STAKE];
        players.get((int) row[SIDE + 1])[COINS] += row[STAKE];
        return 0;
    }

    private long win(long[] game, int side) {
        long[] winner = players.get((int) game[SIDE + side]);
        long[] loser = players.get((int) game[SIDE + 1 - side]);
        long tenth = game[STAKE] * 2 / 10;
        winner[COINS] += game[STAKE] * 2 - tenth;
        bankCoins += tenth;
        winner[WON] += 1;
        loser[LOST] += 1;
        game[RESULT] = 1 + side;
        return game[STAKE] * 2 - tenth;
    }

    long game(int game, int what) {
        long[] row = row(games, game);
        index(within(what, 0, 10));
        return row[what];
    }

    // ---- seconds

    long pass(int seconds) {
        argument(within(seconds, 1, 1200));
        state(time + seconds <= 20000);
        long before = gamesThatRun();
        for (int s = 0; s < seconds; s++) {
            second();
        }
        return before - gamesThatRun();
    }

    private long gamesThatRun() {
        return games.stream().filter(g -> g[RESULT] == 0).count();
    }

    private void second() {
        time += 1;
        for (long[] game : games) {
            clock(game);
        }
        for (long[] loan : loans) {
            if (time % 60 == 0 && loan[STATUS] == 0) {
                loan[OWED] = Math.min(1000000, loan[OWED] + loan[OWED] * loan[RATE] / 1000 + 1);
            }
        }
        for (long[] loan : loans) {
            if (loan[STATUS] == 0 && loan[DUE] == time) {
                due(loan);
            }
        }
        for (long[] game : games) {
            if (time % 30 == 0 && game[RESULT] == 0) {
                arbiter(game, 0);
                arbiter(game, 1);
            }
        }
    }

    private void clock(long[] game) {
        if (game[RESULT] != 0) {
            return;
        }
        int turn = (int) game[TURN];
        game[USED] += 1;
        if (game[USED] > game[DELAY]) {
            game[CLOCK + turn] -= 1;
            if (game[CLOCK + turn] == 0) {
                win(game, 1 - turn);
            }
        }
    }

    private void due(long[] loan) {
        long[] debtor = players.get((int) loan[DEBTOR]);
        long taken = Math.min(loan[OWED], debtor[POCKET]);
        debtor[POCKET] -= taken;
        payBack(loan, taken);
        for (long[] game : games) {
            for (int side = 0; side <= 1; side++) {
                if (game[RESULT] == 0 && game[SIDE + side] == loan[DEBTOR]) {
                    long more = Math.min(loan[OWED], game[CLOCK + side] - 1);
                    game[CLOCK + side] -= more;
                    payBack(loan, more);
                }
            }
        }
        loan[STATUS] = loan[OWED] == 0 ? 1 : 2;
    }

    private void arbiter(long[] game, int side) {
        if (game[STOLEN + side] >= 15) {
            moveTime(game, side, game[STOLEN + side] * 2);
            game[STOLEN + side] = 0;
            players.get((int) game[SIDE + side])[CAUGHT] += 1;
        } else {
            game[STOLEN + side] /= 2;
        }
    }

    long count(int what) {
        index(within(what, 0, 10));
        long[] told = {
            time, players.size(), games.size(), gamesThatRun(), loans.size(),
            loans.stream().filter(l -> l[STATUS] == 0).count(), reserve, bankCoins, price(), out(),
            players.stream().mapToLong(p -> p[CAUGHT]).sum(),
        };
        return told[what];
    }

    // ---- looking ahead

    long foresee(int seconds, int what) {
        argument(within(seconds, 1, 2400));
        index(within(what, 0, 3));
        state(time + seconds <= 20000);
        Model twin = twin();
        long first = -1;
        long when = -1;
        for (int s = 0; s < seconds; s++) {
            twin.second();
            if (first < 0 && twin.gamesThatRun() < gamesThatRun()) {
                first = firstThatRanAndEnded(twin);
                when = twin.time;
            }
        }
        long ended = gamesThatRun() - twin.gamesThatRun();
        return new long[] {first, when, ended, twin.badLoans() - badLoans()}[what];
    }

    private int firstThatRanAndEnded(Model later) {
        for (int g = 0; g < games.size(); g++) {
            if (games.get(g)[RESULT] == 0 && later.games.get(g)[RESULT] != 0) {
                return g;
            }
        }
        return -1;
    }

    private long badLoans() {
        return loans.stream().filter(l -> l[STATUS] == 2).count();
    }

    long leader(int place) {
        index(within(place, 0, players.size() - 1));
        List<Integer> order = new ArrayList<>();
        for (int p = 0; p < players.size(); p++) {
            order.add(p);
        }
        Comparator<Integer> byGames = Comparator.comparing(p -> players.get(p)[LOST] - players.get(p)[WON]);
        order.sort(byGames.thenComparing(p -> -players.get(p)[COINS]));
        return order.get(place);
    }

    long needs(int player, int seconds) {
        row(players, player);
        argument(within(seconds, 1, 600));
        long needed = 0;
        for (long[] game : games) {
            if (game[RESULT] == 0 && game[SIDE + (int) game[TURN]] == player) {
                needed += neededIn(game, seconds);
            }
        }
        return needed;
    }

    /** Tries 0, 1, 2 .. more seconds on the clock until the flag does not fall. */
    private static long neededIn(long[] game, int seconds) {
        long clock = game[CLOCK + (int) game[TURN]];
        for (long more = 0; true; more++) {
            long left = clock + more;
            for (long used = game[USED] + 1; used <= game[USED] + seconds; used++) {
                left -= used > game[DELAY] ? 1 : 0;
            }
            if (left > 0) {
                return more;
            }
        }
    }

    double mean() {
        List<Long> clocks = new ArrayList<>();
        for (long[] game : games) {
            if (game[RESULT] == 0) {
                clocks.add(game[CLOCK]);
                clocks.add(game[CLOCK + 1]);
            }
        }
        long sum = clocks.stream().mapToLong(c -> c).sum();
        return clocks.isEmpty() ? 0.0 : (double) sum / clocks.size();
    }

    long digest() {
        List<Long> told = new ArrayList<>();
        for (int what = 0; what <= 10; what++) {
            told.add(count(what));
        }
        for (int p = 0; p < players.size(); p++) {
            for (int what = 0; what <= 7; what++) {
                told.add(player(p, what));
            }
        }
        for (long[] loan : loans) {
            addAll(told, loan, 4);
        }
        for (long[] game : games) {
            addAll(told, game, 10);
        }
        return wrapped(told);
    }

    private static void addAll(List<Long> told, long[] row, int last) {
        for (int what = 0; what <= last; what++) {
            told.add(row[what]);
        }
    }

    /** The sum without a bound, of which 64 bits are kept at the very end. */
    static long wrapped(List<Long> told) {
        BigInteger d = BigInteger.valueOf(509);
        for (long x : told) {
            d = d.multiply(BigInteger.valueOf(31)).add(BigInteger.valueOf(x));
        }
        return d.longValue();
    }
}
