import java.util.List;

/** Compares answers with those that are due, and tells at the end whether all were right. */
final class Check {
    interface Call {
        void make();
    }

    /** Makes a bank anew: each question gets one of its own, so that none is asked beyond its 512th call. */
    interface Start {
        MinuteBank make();
    }

    interface Ask {
        long on(MinuteBank bank);
    }

    interface OfNumber {
        long on(MinuteBank bank, int number);
    }

    static final Class<?> INDEX = IndexOutOfBoundsException.class;
    static final Class<?> ARGUMENT = IllegalArgumentException.class;
    static final Class<?> STATE = IllegalStateException.class;

    private static int wrong = 0;

    private Check() {
    }

    static void same(String what, long due, long got) {
        if (due != got) {
            tell(what + ": answered " + got + ", due is " + due);
        }
    }

    static void sameMean(String what, double due, double got) {
        if (due != got) {
            tell(what + ": answered " + got + ", due is " + due);
        }
    }

    static void holds(String what, boolean right) {
        if (!right) {
            tell(what + ": does not hold");
        }
    }

    /** From this start the call throws just this exception, and all is as it is without it. */
    static void refuses(String what, Class<?> kind, Start start, Ask call) {
        MinuteBank bank = start.make();
        Class<?> thrown = kindThrownBy(() -> call.on(bank));
        if (thrown != kind) {
            tell(what + ": threw " + thrown + ", due is " + kind);
        }
        sameLists(what + ", was refused", Everything.of(start.make()), Everything.of(bank));
    }

    /** From this start the call is taken, and answers so. */
    static void answers(String what, long due, Start start, Ask call) {
        MinuteBank bank = start.make();
        long[] got = new long[1];
        Class<?> thrown = kindThrownBy(() -> got[0] = call.on(bank));
        if (thrown != null) {
            tell(what + ": threw " + thrown + ", due is " + due);
        } else {
            same(what, due, got[0]);
        }
    }

    private static void sameLists(String what, List<String> due, List<String> got) {
        same(what + ", how many answers", due.size(), got.size());
        for (int i = 0; i < Math.min(due.size(), got.size()); i++) {
            if (!due.get(i).equals(got.get(i))) {
                tell(what + ": " + got.get(i) + ", due is " + due.get(i));
            }
        }
    }

    static Class<?> kindThrownBy(Call call) {
        try {
            call.make();
            return null;
        } catch (RuntimeException e) {
            return e.getClass();
        }
    }

    static void counts(String what, MinuteBank bank, int... due) {
        for (int i = 0; i < due.length; i++) {
            same(what + ", count(" + i + ")", due[i], bank.count(i));
        }
    }

    static void player(String what, MinuteBank bank, int player, int... due) {
        for (int i = 0; i < due.length; i++) {
            same(what + ", player(" + player + ", " + i + ")", due[i], bank.player(player, i));
        }
    }

    static void loan(String what, MinuteBank bank, int loan, int... due) {
        for (int i = 0; i < due.length; i++) {
            same(what + ", loan(" + loan + ", " + i + ")", due[i], bank.loan(loan, i));
        }
    }

    static void game(String what, MinuteBank bank, int game, int... due) {
        for (int i = 0; i < due.length; i++) {
            same(what + ", game(" + game + ", " + i + ")", due[i], bank.game(game, i));
        }
    }

    /** A bank with so many players, each with these coins. */
    static MinuteBank bankWith(int players, int coins) {
        MinuteBank bank = new MinuteBank();
        for (int p = 0; p < players; p++) {
            same("addPlayer", p, bank.addPlayer(coins));
        }
        return bank;
    }

    /** Empties the pocket of a player of side 0: what is on the clock of a stopped game is gone. */
    static void lose(MinuteBank bank, int player, int other, int n) {
        int game = bank.begin(player, other, 1, 0, 0, 0);
        bank.put(game, 0, n);
        bank.end(game, -1);
    }

    /** Refused so are the numbers next to least and most, on the outer sides, and the farthest ones. */
    static void refusesOutside(String what, Class<?> kind, int least, int most, Start start, OfNumber call) {
        int[] outside = {least - 1, most + 1, Integer.MIN_VALUE, Integer.MAX_VALUE};
        for (int n : outside) {
            refuses(what + " " + n, kind, start, bank -> call.on(bank, n));
        }
    }

    /** A bank of such players, all of whose reserve but this has been bought by player 0. */
    static MinuteBank bankWithReserve(int reserve, int players) {
        MinuteBank bank = bankWith(players, 1000000);
        int left = 100000 - reserve;
        while (left > 0) {
            int n = Math.min(left, 10000);
            bank.buy(0, n);
            left -= n;
        }
        return bank;
    }

    /** Lets more seconds go by than one call may. */
    static void passMany(MinuteBank bank, int seconds) {
        int left = seconds;
        while (left > 0) {
            int step = Math.min(left, 1200);
            bank.pass(step);
            left -= step;
        }
    }

    private static void tell(String text) {
        wrong++;
        System.out.println(text);
    }

    static void finish() {
        System.out.println(wrong == 0 ? "all answers are as due" : wrong + " answers are not as due");
        if (wrong != 0) {
            System.exit(1);
        }
    }
}
