import java.util.Random;

/** Long runs of calls from fixed seeds: what the document says of every call holds in each of them. */
public final class RandomRunsTest {
    private static final int RUNS = 120;
    private static final int CALLS = 500;

    // The places of some calls in the rows below.
    private static final int BEGIN = 5;
    private static final int PASS = 10;
    private static final int FORESEE = 11;
    private static final int NEEDS = 13;

    private static final Class<?>[][] MAY_THROW = {
        {Check.ARGUMENT, Check.STATE},
        {Check.INDEX, Check.ARGUMENT, Check.STATE},
        {Check.INDEX, Check.ARGUMENT, Check.STATE},
        {Check.INDEX, Check.ARGUMENT, Check.STATE},
        {Check.INDEX, Check.ARGUMENT, Check.STATE},
        {Check.INDEX, Check.ARGUMENT, Check.STATE},
        {Check.INDEX, Check.STATE},
        {Check.INDEX, Check.ARGUMENT, Check.STATE},
        {Check.INDEX, Check.ARGUMENT, Check.STATE},
        {Check.INDEX, Check.ARGUMENT, Check.STATE},
        {Check.ARGUMENT, Check.STATE},
        {Check.ARGUMENT, Check.INDEX, Check.STATE},
        {Check.INDEX},
        {Check.INDEX, Check.ARGUMENT},
        {Check.INDEX},
        {Check.INDEX},
        {Check.INDEX},
        {Check.INDEX},
    };

    private final Random random;
    private final MinuteBank bank = new MinuteBank();

    // Gets the same changes as the bank, but its seconds one by one, and is never asked to look ahead.
    private final MinuteBank twin = new MinuteBank();
    private final int[] delays = new int[16];

    private RandomRunsTest(int seed) {
        random = new Random(seed);
    }

    public static void main(String[] args) {
        for (int seed = 0; seed < RUNS; seed++) {
            new RandomRunsTest(seed).run();
        }
        Check.finish();
    }

    private void run() {
        for (int player = 0; player < 2; player++) {
            bank.addPlayer(50000);
            twin.addPlayer(50000);
        }
        for (int call = 0; call < CALLS; call++) {
            makeACall();
            checkWhatAlwaysHolds();
        }
        Check.same("time in one step or in many", twin.digest(), bank.digest());
    }

    private void makeACall() {
        int kind = random.nextInt(MAY_THROW.length);
        int[] with = arguments(kind);
        long before = bank.digest();
        long[] answer = new long[1];
        Class<?> thrown = Check.kindThrownBy(() -> answer[0] = call(bank, kind, with));
        if (thrown == null) {
            checkAnswer(kind, with, answer[0], before);
        } else {
            Check.holds("call " + kind + " may throw " + thrown, mayThrow(kind, thrown));
            Check.same("call " + kind + " was refused", before, bank.digest());
        }
    }

    private void checkAnswer(int kind, int[] with, long answer, long before) {
        if (kind == PASS) {
            Check.same("games that ended", answer, passOneByOne(with[0]));
        } else if (kind != FORESEE) {
            Check.same("call " + kind + " of the twin", answer, call(twin, kind, with));
        }
        if (kind >= FORESEE) {
            Check.same("call " + kind + " only looks", before, bank.digest());
        }
        if (kind == BEGIN) {
            delays[(int) answer] = with[4];
        }
        if (kind == FORESEE) {
            comesTrue(with[0]);
        }
        if (kind == NEEDS) {
            Check.same("needs", neededBySeconds(with[0], with[1]), answer);
        }
    }

    private static boolean mayThrow(int kind, Class<?> thrown) {
        for (Class<?> named : MAY_THROW[kind]) {
            if (named == thrown) {
                return true;
            }
        }
        return false;
    }

    private static long call(MinuteBank b, int kind, int[] with) {
        switch (kind) {
            case 0: return b.addPlayer(with[0]);
            case 1: return b.buy(with[0], with[1]);
            case 2: return b.sell(with[0], with[1]);
            case 3: return b.borrow(with[0], with[1], with[2], with[3]);
            case 4: return b.repay(with[0], with[1]);
            case 5: return b.begin(with[0], with[1], with[2], with[3], with[4], with[5]);
            case 6: return b.press(with[0]);
            case 7: return b.put(with[0], with[1], with[2]);
            case 8: return b.steal(with[0], with[1], with[2]);
            case 9: return b.end(with[0], with[1]);
            case 10: return b.pass(with[0]);
            case 11: return b.foresee(with[0], with[1]);
            case 12: return b.leader(with[0]);
            case 13: return b.needs(with[0], with[1]);
            case 14: return b.player(with[0], with[1]);
            case 15: return b.loan(with[0], with[1]);
            case 16: return b.game(with[0], with[1]);
            default: return b.count(with[0]);
        }
    }

    private int[] arguments(int kind) {
        int player = random.nextInt(10) - 1;
        int game = random.nextInt(18) - 1;
        int side = random.nextInt(10) == 0 ? random.nextInt(5) - 2 : random.nextInt(2);
        switch (kind) {
            case 0: return new int[] {near(0, 1000000)};
            case 1: return new int[] {player, near(1, 10000)};
            case 2: return new int[] {player, near(1, 10000)};
            case 3: return new int[] {player, near(1, 5000), near(0, 100), near(1, 3600)};
            case 4: return new int[] {random.nextInt(22) - 1, near(1, 1000000)};
            case 5: return beginArguments(player);
            case 6: return new int[] {game};
            case 7: return new int[] {game, side, near(1, 3600)};
            case 8: return new int[] {game, side, near(1, 20)};
            case 9: return new int[] {game, near(-1, 1)};
            case 10: return new int[] {random.nextInt(8) == 0 ? near(1, 1200) : near(1, 60)};
            case 11: return new int[] {near(1, 2400), near(0, 3)};
            case 12: return new int[] {player};
            case 13: return new int[] {player, near(1, 600)};
            case 14: return new int[] {player, near(0, 7)};
            case 15: return new int[] {random.nextInt(22) - 1, near(0, 4)};
            case 16: return new int[] {game, near(0, 10)};
            default: return new int[] {near(0, 10)};
        }
    }

    private int[] beginArguments(int player) {
        int other = random.nextInt(9);
        return new int[] {player, other, near(1, 600), near(0, 30), near(0, 30), near(0, 1000)};
    }

    /** Most often a number of the span, or a small one of it; at times just outside, or far away. */
    private int near(int least, int most) {
        switch (random.nextInt(40)) {
            case 0: return least - 1;
            case 1: return most + 1;
            case 2: return random.nextInt();
            case 3: return least;
            case 4: return most;
            default: break;
        }
        int span = most - least + 1;
        return least + random.nextInt(random.nextBoolean() ? Math.min(span, 100) : span);
    }

    private int passOneByOne(int seconds) {
        int ended = 0;
        for (int s = 0; s < seconds; s++) {
            ended += twin.pass(1);
        }
        return ended;
    }

    /** What is foreseen now comes about when the seconds go by. */
    private void comesTrue(int seconds) {
        if (seconds > 1200 || random.nextInt(4) != 0) {
            return;
        }
        int first = bank.foresee(seconds, 0);
        int when = bank.foresee(seconds, 1);
        int many = bank.foresee(seconds, 2);
        int bad = bank.foresee(seconds, 3);
        int badBefore = badLoans(bank);
        int seenFirst = -1;
        int seenWhen = -1;
        for (int s = 0; s < seconds; s++) {
            boolean[] ran = running(twin);
            if (twin.pass(1) > 0 && seenFirst < 0) {
                seenFirst = firstEnded(ran);
                seenWhen = twin.count(0);
            }
        }
        Check.same("the number foreseen", bank.pass(seconds), many);
        Check.same("the first game", seenFirst, first);
        Check.same("the time", seenWhen, when);
        Check.same("the bad loans", badLoans(bank) - badBefore, bad);
    }

    private static boolean[] running(MinuteBank b) {
        boolean[] runs = new boolean[b.count(2)];
        for (int g = 0; g < runs.length; g++) {
            runs[g] = b.game(g, 7) == 0;
        }
        return runs;
    }

    private int firstEnded(boolean[] ran) {
        for (int g = 0; g < ran.length; g++) {
            if (ran[g] && twin.game(g, 7) != 0) {
                return g;
            }
        }
        return -1;
    }

    private static int badLoans(MinuteBank b) {
        int bad = 0;
        for (int l = 0; l < b.count(4); l++) {
            bad += b.loan(l, 4) == 2 ? 1 : 0;
        }
        return bad;
    }

    /** As needs tells, but by letting each second go by. */
    private int neededBySeconds(int player, int seconds) {
        int needed = 0;
        for (int g = 0; g < bank.count(2); g++) {
            int turn = bank.game(g, 4);
            if (bank.game(g, 7) != 0 || bank.game(g, turn) != player) {
                continue;
            }
            int clock = bank.game(g, 2 + turn);
            int used = bank.game(g, 6);
            for (int s = 0; s < seconds; s++) {
                used++;
                clock -= used > delays[g] ? 1 : 0;
            }
            needed += clock >= 1 ? 0 : 1 - clock;
        }
        return needed;
    }

    private void checkWhatAlwaysHolds() {
        Check.same("seconds of the bank", 100000, bank.count(6) + bank.count(9));
        Check.same("price", 3 + Math.max(0, bank.count(9)) / 1000, bank.count(8));
        Check.holds("coins of the bank", bank.count(7) >= 0);
        Check.holds("reserve", bank.count(6) >= 0);
        checkGames();
        checkPlayers();
        checkLoans();
    }

    private void checkGames() {
        long sum = 0;
        for (int g = 0; g < bank.count(2); g++) {
            int first = bank.game(g, 2);
            int second = bank.game(g, 3);
            if (bank.game(g, 7) == 0) {
                Check.holds("clocks that run", first > 0 && second > 0);
                sum += first + second;
            }
        }
        int clocks = 2 * bank.count(3);
        Check.sameMean("mean", clocks == 0 ? 0.0 : (double) sum / clocks, bank.mean());
    }

    private void checkPlayers() {
        int running = 0;
        int wonLessLost = 0;
        int caught = 0;
        for (int p = 0; p < bank.count(1); p++) {
            Check.holds("coins", bank.player(p, 0) >= 0);
            Check.holds("pocket", bank.player(p, 1) >= 0);
            running += bank.player(p, 2);
            wonLessLost += bank.player(p, 3) - bank.player(p, 4);
            caught += bank.player(p, 7);
            checkPlace(p);
        }
        Check.same("games that run", 2 * bank.count(3), running);
        Check.same("won less lost", 0, wonLessLost);
        Check.same("caught", bank.count(10), caught);
    }

    private void checkPlace(int place) {
        if (place == 0) {
            return;
        }
        int ahead = bank.leader(place - 1);
        int behind = bank.leader(place);
        int more = lead(ahead) - lead(behind);
        int coins = bank.player(ahead, 0) - bank.player(behind, 0);
        Check.holds("order", more > 0 || more == 0 && (coins > 0 || coins == 0 && ahead < behind));
    }

    private int lead(int player) {
        return bank.player(player, 3) - bank.player(player, 4);
    }

    private void checkLoans() {
        int[] owed = new int[8];
        int[] bad = new int[8];
        int open = 0;
        for (int l = 0; l < bank.count(4); l++) {
            int status = bank.loan(l, 4);
            Check.holds("closed if nothing is owed", (bank.loan(l, 1) == 0) == (status == 1));
            Check.holds("open till it is due", status != 0 || bank.loan(l, 3) > bank.count(0));
            owed[bank.loan(l, 0)] += bank.loan(l, 1);
            bad[bank.loan(l, 0)] += status == 2 ? 1 : 0;
            open += status == 0 ? 1 : 0;
        }
        Check.same("open loans", open, bank.count(5));
        for (int p = 0; p < bank.count(1); p++) {
            Check.same("owed", owed[p], bank.player(p, 5));
            Check.same("bad", bad[p], bank.player(p, 6));
        }
    }
}
