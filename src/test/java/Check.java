/** Compares answers with those that are due, and tells at the end whether all were right. */
final class Check {
    interface Call {
        void make();
    }

    static final Class<?> INDEX = IndexOutOfBoundsException.class;
    static final Class<?> ARGUMENT = IllegalArgumentException.class;
    static final Class<?> STATE = IllegalStateException.class;

    private static int wrong = 0;

    private Check() {
    }

    static void same(String what, long due, long got) {
        if (due != got) {
            tell(what + ": answered " + got + ", due is " + due);
        }
    }

    static void sameMean(String what, double due, double got) {
        if (due != got) {
            tell(what + ": answered " + got + ", due is " + due);
        }
    }

    static void holds(String what, boolean right) {
        if (!right) {
            tell(what + ": does not hold");
        }
    }

    /** The call throws just this exception, and leaves the bank as it was. */
    static void refuses(String what, Class<?> kind, MinuteBank bank, Call call) {
        long before = bank.digest();
        Class<?> thrown = kindThrownBy(call);
        if (thrown != kind) {
            tell(what + ": threw " + thrown + ", due is " + kind);
        }
        if (bank.digest() != before) {
            tell(what + ": was refused, but changed the bank");
        }
    }

    static Class<?> kindThrownBy(Call call) {
        try {
            call.make();
            return null;
        } catch (RuntimeException e) {
            return e.getClass();
        }
    }

    static void counts(String what, MinuteBank bank, int... due) {
        for (int i = 0; i < due.length; i++) {
            same(what + ", count(" + i + ")", due[i], bank.count(i));
        }
    }

    static void player(String what, MinuteBank bank, int player, int... due) {
        for (int i = 0; i < due.length; i++) {
            same(what + ", player(" + player + ", " + i + ")", due[i], bank.player(player, i));
        }
    }

    static void loan(String what, MinuteBank bank, int loan, int... due) {
        for (int i = 0; i < due.length; i++) {
            same(what + ", loan(" + loan + ", " + i + ")", due[i], bank.loan(loan, i));
        }
    }

    static void game(String what, MinuteBank bank, int game, int... due) {
        for (int i = 0; i < due.length; i++) {
            same(what + ", game(" + game + ", " + i + ")", due[i], bank.game(game, i));
        }
    }

    /** A bank with so many players, each with these coins. */
    static MinuteBank bankWith(int players, int coins) {
        MinuteBank bank = new MinuteBank();
        for (int p = 0; p < players; p++) {
            same("addPlayer", p, bank.addPlayer(coins));
        }
        return bank;
    }

    /** Empties the pocket of a player of side 0: what is on the clock of a stopped game is gone. */
    static void lose(MinuteBank bank, int player, int other, int n) {
        int game = bank.begin(player, other, 1, 0, 0, 0);
        bank.put(game, 0, n);
        bank.end(game, -1);
    }

    /** Lets more seconds go by than one call may. */
    static void passMany(MinuteBank bank, int seconds) {
        int left = seconds;
        while (left > 0) {
            int step = Math.min(left, 1200);
            bank.pass(step);
            left -= step;
        }
    }

    private static void tell(String text) {
        wrong++;
        System.out.println(text);
    }

    static void finish() {
        System.out.println(wrong == 0 ? "all answers are as due" : wrong + " answers are not as due");
        if (wrong != 0) {
            System.exit(1);
        }
    }
}
