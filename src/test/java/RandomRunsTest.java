import java.util.Random;

/** Runs of 512 calls from fixed seeds: each is answered, or refused, as the Model does it. */
public final class RandomRunsTest {
    private static final int RUNS = 900;
    private static final int CALLS = 512;
    private static final int KINDS = 20;

    private final Random random;
    private final MinuteBank bank = new MinuteBank();
    private final Model model = new Model();

    // Of the runs some are poor and quick, so that much is refused and falls; others are rich and slow.
    private final int coins;
    private final int clock;
    private final int step;

    private RandomRunsTest(int seed) {
        random = new Random(seed);
        coins = new int[] {200, 20000, 1000000}[seed % 3];
        clock = new int[] {20, 400, 7200}[seed / 3 % 3];
        step = new int[] {5, 40, 300}[seed / 9 % 3];
    }

    public static void main(String[] args) {
        for (int seed = 0; seed < RUNS; seed++) {
            new RandomRunsTest(seed).run("run " + seed);
        }
        Check.finish();
    }

    private void run(String name) {
        for (int call = 1; call < CALLS; call++) {
            int kind = call <= 3 ? 0 : random.nextInt(KINDS);
            compare(name + ", call " + call, kind, arguments(kind));
        }
        Check.same(name + ", digest", model.digest(), bank.digest());
    }

    private void compare(String name, int kind, int[] with) {
        long[] answers = new long[2];
        Class<?> due = Check.kindThrownBy(() -> answers[0] = askModel(kind, with));
        Class<?> got = Check.kindThrownBy(() -> answers[1] = askBank(kind, with));
        Check.holds(name + " of kind " + kind + " throws " + got + ", due is " + due, due == got);
        Check.same(name + " of kind " + kind, answers[0], answers[1]);
    }

    private long askBank(int kind, int[] with) {
        switch (kind) {
            case 0: return bank.addPlayer(with[0]);
            case 1: return bank.buy(with[0], with[1]);
            case 2: return bank.sell(with[0], with[1]);
            case 3: return bank.borrow(with[0], with[1], with[2], with[3]);
            case 4: return bank.repay(with[0], with[1]);
            case 5: return bank.begin(with[0], with[1], with[2], with[3], with[4], with[5]);
            case 6: return bank.press(with[0]);
            case 7: return bank.put(with[0], with[1], with[2]);
            case 8: return bank.steal(with[0], with[1], with[2]);
            case 9: return bank.end(with[0], with[1]);
            case 10: return bank.pass(with[0]);
            case 11: return bank.foresee(with[0], with[1]);
            case 12: return bank.leader(with[0]);
            case 13: return bank.needs(with[0], with[1]);
            case 14: return bank.player(with[0], with[1]);
            case 15: return bank.loan(with[0], with[1]);
            case 16: return bank.game(with[0], with[1]);
            case 17: return bank.count(with[0]);
            case 18: return Double.doubleToLongBits(bank.mean());
            default: return bank.digest();
        }
    }

    private long askModel(int kind, int[] with) {
        switch (kind) {
            case 0: return model.addPlayer(with[0]);
            case 1: return model.buy(with[0], with[1]);
            case 2: return model.sell(with[0], with[1]);
            case 3: return model.borrow(with[0], with[1], with[2], with[3]);
            case 4: return model.repay(with[0], with[1]);
            case 5: return model.begin(with[0], with[1], with[2], with[3], with[4], with[5]);
            case 6: return model.press(with[0]);
            case 7: return model.put(with[0], with[1], with[2]);
            case 8: return model.steal(with[0], with[1], with[2]);
            case 9: return model.end(with[0], with[1]);
            case 10: return model.pass(with[0]);
            case 11: return model.foresee(with[0], with[1]);
            case 12: return model.leader(with[0]);
            case 13: return model.needs(with[0], with[1]);
            case 14: return model.player(with[0], with[1]);
            case 15: return model.loan(with[0], with[1]);
            case 16: return model.game(with[0], with[1]);
            case 17: return model.count(with[0]);
            case 18: return Double.doubleToLongBits(model.mean());
            default: return model.digest();
        }
    }

    private int[] arguments(int kind) {
        switch (kind) {
            case 0: return new int[] {of(0, 1000000, coins)};
            case 1: return new int[] {player(), of(1, 10000, 500)};
            case 2: return new int[] {player(), of(1, 10000, 200)};
            case 3: return new int[] {player(), of(1, 5000, 300), of(0, 100, 100), of(1, 3600, 5 * step)};
            case 4: return new int[] {number(20, model.count(4)), of(1, 1000000, 300)};
            case 5: return beginArguments();
            case 6: return new int[] {game()};
            case 7: return new int[] {game(), side(), of(1, 3600, 60)};
            case 8: return new int[] {game(), side(), of(1, 20, 20)};
            case 9: return new int[] {random.nextInt(3) == 0 ? game() : -1, of(-1, 1, 3)};
            case 10: return new int[] {of(1, 1200, step)};
            case 11: return new int[] {of(1, 2400, 10 * step), of(0, 3, 4)};
            case 12: return new int[] {player()};
            case 13: return new int[] {player(), of(1, 600, 600)};
            case 14: return new int[] {player(), of(0, 7, 8)};
            case 15: return new int[] {number(20, model.count(4)), of(0, 4, 5)};
            case 16: return new int[] {game(), of(0, 10, 11)};
            default: return new int[] {of(0, 10, 11)};
        }
    }

    private int[] beginArguments() {
        int[] players = {player(), player()};
        return new int[] {players[0], players[1], of(1, 7200, clock), of(0, 30, 5), of(0, 30, 31), of(0, 10000, coins / 20)};
    }

    private int player() {
        return number(8, model.count(1));
    }

    private int game() {
        return number(16, model.count(2));
    }

    private int side() {
        return random.nextInt(30) == 0 ? of(0, 1, 2) : random.nextInt(2);
    }

    /** Most often one that is there. */
    private int number(int most, long there) {
        if (there > 0 && random.nextInt(20) != 0) {
            return random.nextInt((int) there);
        }
        return of(0, most - 1, most);
    }

    /** Most often one of the first so many numbers from the least; at times an end, just outside, or far away. */
    private int of(int least, int most, int many) {
        switch (random.nextInt(60)) {
            case 0: return least - 1;
            case 1: return most + 1;
            case 2: return random.nextInt();
            case 3: return least;
            case 4: return most;
            default: return least + random.nextInt(Math.min(many, most - least + 1));
        }
    }
}
