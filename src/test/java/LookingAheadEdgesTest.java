import java.util.ArrayList;
import java.util.List;

/** The boundary cases of promises 17 to 21; the sentence stands above each test. */
public final class LookingAheadEdgesTest {
    public static void main(String[] args) {
        foreseeSeconds();
        foreseeFacts();
        foreseeUpToTheLastSecond();
        foreseeInSoManySecondsAtMost();
        foreseeOfSeveralTheSmallestNumber();
        foreseeNone();
        foreseeLoansThatBecomeBad();
        foreseeLoansAtTheirRates();
        foreseeLoansTakenFromOwnClocks();
        foreseeTheTurnAsItStands();
        foreseeTheArbiter();
        foreseeChangesNothing();
        foreseeTwice();
        leaderPlaces();
        leaderByGames();
        leaderByCoins();
        leaderByNumbers();
        needsNumbers();
        needsSeconds();
        needsNotToComeTo0();
        needsInTheDelay();
        needsInAll();
        needsOnlyInItsTurn();
        needsWithoutThievesLoansAndArbiter();
        needsBeyondTheLastSecond();
        meanOfNone();
        meanOfHalvesAndThirds();
        digestWrapsAround();
        digestOfLessThan0();
        Check.finish();
    }

    private static MinuteBank at(int time) {
        MinuteBank bank = Check.bankWith(3, 10000);
        Check.passMany(bank, time);
        return bank;
    }

    private static MinuteBank playing() {
        MinuteBank bank = at(0);
        bank.begin(0, 1, 100, 0, 0, 10);
        bank.begin(1, 2, 200, 0, 0, 10);
        bank.borrow(2, 50, 10, 300);
        return bank;
    }

    private static void foresees(String what, Check.Start start, int seconds, int... due) {
        for (int i = 0; i < due.length; i++) {
            int asked = i;
            Check.answers(what + ", foresee(" + seconds + ", " + i + ")", due[i], start,
                    bank -> bank.foresee(seconds, asked));
        }
    }

    // "IllegalArgumentException if seconds is not 1 to 2400"
    private static void foreseeSeconds() {
        foresees("1", LookingAheadEdgesTest::playing, 1, -1, -1, 0, 0);
        foresees("2400", LookingAheadEdgesTest::playing, 2400, 0, 100, 2, 1);
        for (int what = 0; what <= 3; what++) {
            int asked = what;
            Check.refusesOutside("what " + what + ", seconds", Check.ARGUMENT, 1, 2400, LookingAheadEdgesTest::playing,
                    (bank, s) -> bank.foresee(s, asked));
        }
    }

    // "IndexOutOfBoundsException if what is not 0 to 3"
    private static void foreseeFacts() {
        Check.answers("what 0", 0, LookingAheadEdgesTest::playing, bank -> bank.foresee(2400, 0));
        Check.answers("what 3", 1, LookingAheadEdgesTest::playing, bank -> bank.foresee(2400, 3));
        Check.refusesOutside("what", Check.INDEX, 0, 3, LookingAheadEdgesTest::playing, (bank, w) -> bank.foresee(9, w));
    }

    // "IllegalStateException if the time would be greater than 20000"
    private static void foreseeUpToTheLastSecond() {
        foresees("to 20000 by 2400", () -> at(17600), 2400, -1, -1, 0, 0);
        foresees("to 20000 by 1", () -> at(19999), 1, -1, -1, 0, 0);
        Check.refuses("to 20001 by 2400", Check.STATE, () -> at(17601), bank -> bank.foresee(2400, 2));
        Check.refuses("to 20001 by 2", Check.STATE, () -> at(19999), bank -> bank.foresee(2, 0));
        Check.refuses("to 20001 by 1", Check.STATE, () -> at(20000), bank -> bank.foresee(1, 0));
        Check.Start falling = () -> {
            MinuteBank bank = at(17600);
            bank.begin(0, 1, 2400, 0, 0, 0);
            return bank;
        };
        foresees("a flag falls at the last second", falling, 2400, 0, 20000, 1, 0);
        Check.Start fallingAtOnce = () -> {
            MinuteBank bank = at(20000);
            bank.begin(0, 1, 1, 0, 0, 0);
            return bank;
        };
        Check.refuses("a flag would fall beyond it", Check.STATE, fallingAtOnce, bank -> bank.foresee(1, 0));
    }

    // "in how many seconds at most"; "the time when it ends"
    private static void foreseeInSoManySecondsAtMost() {
        Check.Start late = () -> {
            MinuteBank bank = at(50);
            bank.begin(0, 1, 10, 0, 5, 0);
            return bank;
        };
        foresees("one second too few", late, 14, -1, -1, 0, 0);
        foresees("just as many", late, 15, 0, 65, 1, 0);
        foresees("one more", late, 16, 0, 65, 1, 0);
        Check.Start last = () -> {
            MinuteBank bank = at(50);
            bank.begin(0, 1, 1, 0, 0, 0);
            return bank;
        };
        foresees("the next second", last, 1, 0, 51, 1, 0);
    }

    private static Check.Start withClocks(int... clocks) {
        return () -> {
            MinuteBank bank = at(0);
            for (int clock : clocks) {
                bank.begin(0, 1, clock, 0, 0, 0);
            }
            return bank;
        };
    }

    // "the game that ends first, of several the one with the smallest number"
    private static void foreseeOfSeveralTheSmallestNumber() {
        foresees("of two that are the same", withClocks(30, 30), 2400, 0, 30, 2, 0);
        foresees("of two behind another", withClocks(31, 30, 30), 2400, 1, 30, 3, 0);
        foresees("the earlier one", withClocks(30, 29), 2400, 1, 29, 2, 0);
        foresees("the last one", withClocks(9, 9, 8), 2400, 2, 8, 3, 0);
    }

    // "0 and 1: -1 if none ends"
    private static void foreseeNone() {
        foresees("no players", MinuteBank::new, 2400, -1, -1, 0, 0);
        foresees("no games", () -> at(0), 2400, -1, -1, 0, 0);
        Check.Start ended = () -> {
            MinuteBank bank = withClocks(5, 5, 5).make();
            bank.end(0, -1);
            bank.end(1, 0);
            bank.pass(5);
            return bank;
        };
        foresees("all have ended", ended, 2400, -1, -1, 0, 0);
    }

    /** Player 0 owes 10 from the start, has lost them, and they are due in 20. */
    private static MinuteBank owing() {
        MinuteBank bank = at(0);
        bank.borrow(0, 10, 0, 20);
        Check.lose(bank, 0, 1, 10);
        return bank;
    }

    // "3 how many loans become bad"
    private static void foreseeLoansThatBecomeBad() {
        foresees("a second too few", LookingAheadEdgesTest::owing, 19, -1, -1, 0, 0);
        foresees("just as many", LookingAheadEdgesTest::owing, 20, -1, -1, 0, 1);
        foresees("more", LookingAheadEdgesTest::owing, 2400, -1, -1, 0, 1);
        Check.Start bad = () -> {
            MinuteBank bank = owing();
            bank.pass(20);
            return bank;
        };
        foresees("it is bad already", bad, 2400, -1, -1, 0, 0);
        Check.Start paid = () -> {
            MinuteBank bank = owing();
            bank.buy(0, 10);
            return bank;
        };
        foresees("it will be closed", paid, 2400, -1, -1, 0, 0);
        Check.Start nearlyPaid = () -> {
            MinuteBank bank = owing();
            bank.buy(0, 9);
            return bank;
        };
        foresees("1 will be owed", nearlyPaid, 2400, -1, -1, 0, 1);
    }

    /** At 60 player 1 owes 100 and 11 more, and has this many in the pocket. */
    private static Check.Start owing111(int pocket) {
        return () -> {
            MinuteBank bank = at(0);
            bank.borrow(1, 100, 100, 60);
            bank.buy(1, pocket - 100);
            return bank;
        };
    }

    // "if nobody does anything": interest comes all the same
    private static void foreseeLoansAtTheirRates() {
        foresees("as many as are owed", owing111(111), 60, -1, -1, 0, 0);
        foresees("one less", owing111(110), 60, -1, -1, 0, 1);
        foresees("a second ahead of it", owing111(110), 59, -1, -1, 0, 0);
    }

    /** Player 1 owes 10, has lost them, and has a clock of this many in a game with player 2, who moves. */
    private static Check.Start owingWithAClock(int clock) {
        return () -> {
            MinuteBank bank = at(0);
            bank.borrow(1, 10, 0, 20);
            Check.lose(bank, 1, 0, 10);
            bank.begin(2, 1, clock, 0, 30, 0);
            return bank;
        };
    }

    // "from this player's own clocks .., but each keeps at least 1"
    private static void foreseeLoansTakenFromOwnClocks() {
        foresees("the clock holds 10 and 1", owingWithAClock(11), 20, -1, -1, 0, 0);
        foresees("the clock holds 9 and 1", owingWithAClock(10), 20, -1, -1, 0, 1);
        Check.Start ofOthers = () -> {
            MinuteBank bank = owing();
            bank.begin(1, 2, 500, 0, 0, 0);
            return bank;
        };
        foresees("clocks of others are not taken", ofOthers, 20, -1, -1, 0, 1);
        Check.Start shortened = () -> {
            MinuteBank bank = owing();
            bank.begin(0, 1, 50, 0, 0, 0);
            return bank;
        };
        foresees("50 less 20 less 10, to the end", shortened, 40, 1, 40, 1, 0);
        foresees("50 less 20 less 10, not to the end", shortened, 39, -1, -1, 0, 0);
    }

    // "for how many seconds it has been this turn", and whose it is, go on from what they are
    private static void foreseeTheTurnAsItStands() {
        Check.Start pressed = () -> {
            MinuteBank bank = at(0);
            bank.begin(0, 1, 10, 0, 4, 0);
            bank.pass(8);
            bank.press(0);
            bank.pass(3);
            return bank;
        };
        foresees("side 1, one of its delay is left", pressed, 10, -1, -1, 0, 0);
        foresees("side 1, to the end", pressed, 11, 0, 22, 1, 0);
        Check.Start twice = () -> {
            MinuteBank bank = pressed.make();
            bank.press(0);
            return bank;
        };
        foresees("side 0 again, with the whole delay", twice, 9, -1, -1, 0, 0);
        foresees("side 0 again, to the end", twice, 10, 0, 21, 1, 0);
    }

    // the arbiter gives back 30 at 30, if there were 15
    private static void foreseeTheArbiter() {
        Check.Start less = () -> {
            MinuteBank bank = at(0);
            bank.begin(0, 1, 50, 0, 0, 0);
            bank.steal(0, 1, 14);
            return bank;
        };
        foresees("14 stolen", less, 36, 0, 36, 1, 0);
        Check.Start just = () -> {
            MinuteBank bank = less.make();
            bank.steal(0, 1, 1);
            return bank;
        };
        foresees("15 stolen, not to the end", just, 64, -1, -1, 0, 0);
        foresees("15 stolen, to the end", just, 65, 0, 65, 1, 0);
    }

    // what was foreseen once does not matter when it is asked again
    private static void foreseeTwice() {
        MinuteBank bank = playing();
        Check.same("the first time", 0, bank.foresee(2400, 0));
        Check.same("fewer seconds", -1, bank.foresee(99, 0));
        Check.same("fewer seconds, the time", -1, bank.foresee(99, 1));
        Check.same("fewer seconds, games", 0, bank.foresee(99, 2));
        Check.same("fewer seconds, loans", 0, bank.foresee(99, 3));
        Check.same("again", 0, bank.foresee(2400, 0));
        Check.same("again, the time", 100, bank.foresee(2400, 1));
        Check.same("again, games", 2, bank.foresee(2400, 2));
        Check.same("again, loans", 1, bank.foresee(2400, 3));
    }

    // "(nothing is changed)"
    private static void foreseeChangesNothing() {
        List<String> before = Everything.of(playing());
        for (int what = 0; what <= 3; what++) {
            MinuteBank bank = playing();
            bank.foresee(2400, what);
            Check.holds("all is as before foresee(2400, " + what + ")", Everything.of(bank).equals(before));
        }
    }

    // "IndexOutOfBoundsException if there are not so many players"
    private static void leaderPlaces() {
        Check.answers("the first place", 0, () -> at(0), bank -> bank.leader(0));
        Check.answers("the last place", 2, () -> at(0), bank -> bank.leader(2));
        Check.refusesOutside("place of 3", Check.INDEX, 0, 2, () -> at(0), MinuteBank::leader);
        Check.refusesOutside("place of none", Check.INDEX, 0, -1, MinuteBank::new, MinuteBank::leader);
        Check.Start eight = () -> Check.bankWith(8, 5);
        Check.answers("the last place of 8", 7, eight, bank -> bank.leader(7));
        Check.refusesOutside("place of 8", Check.INDEX, 0, 7, eight, MinuteBank::leader);
    }

    private static void leaders(String what, MinuteBank bank, int... due) {
        for (int place = 0; place < due.length; place++) {
            Check.same(what + ", place " + place, due[place], bank.leader(place));
        }
    }

    // "by games won less games lost": 1, 0 and -1 of the same coins, and 1 of 2 less 1
    private static void leaderByGames() {
        MinuteBank bank = at(0);
        bank.end(bank.begin(2, 0, 9, 0, 0, 0), 1);
        leaders("1, 0, -1", bank, 2, 1, 0);
        bank.end(bank.begin(2, 1, 9, 0, 0, 0), 0);
        bank.end(bank.begin(2, 1, 9, 0, 0, 0), 1);
        leaders("2 less 1, 1 less 1, -1", bank, 2, 1, 0);
        bank.end(bank.begin(1, 2, 9, 0, 0, 0), 1);
        leaders("2 less 1, 2 less 2, -1", bank, 1, 2, 0);
    }

    // "of the same by coins, each the greater ones first"
    private static void leaderByCoins() {
        MinuteBank bank = new MinuteBank();
        bank.addPlayer(6);
        bank.addPlayer(5);
        bank.addPlayer(7);
        leaders("one coin makes it", bank, 2, 0, 1);
        bank.end(bank.begin(1, 2, 9, 0, 0, 0), 1);
        leaders("games are more than coins", bank, 1, 0, 2);
    }

    // "of the same by numbers"
    private static void leaderByNumbers() {
        leaders("all the same", at(0), 0, 1, 2);
        MinuteBank bank = Check.bankWith(8, 5);
        bank.end(bank.begin(3, 5, 9, 0, 0, 0), 1);
        bank.end(bank.begin(6, 2, 9, 0, 0, 0), 1);
        leaders("three times the same", bank, 3, 6, 0, 1, 4, 7, 2, 5);
    }

    private static Check.Start onTheClock(int clock, int delay, int passed) {
        return () -> {
            MinuteBank bank = at(0);
            bank.begin(0, 1, clock, 0, delay, 0);
            if (passed > 0) {
                bank.pass(passed);
            }
            return bank;
        };
    }

    // "IndexOutOfBoundsException if there is no such player"
    private static void needsNumbers() {
        Check.answers("the first", 501, onTheClock(100, 0, 0), bank -> bank.needs(0, 600));
        Check.answers("the last", 0, onTheClock(100, 0, 0), bank -> bank.needs(2, 600));
        Check.refusesOutside("player", Check.INDEX, 0, 2, onTheClock(100, 0, 0), (bank, p) -> bank.needs(p, 600));
        Check.refusesOutside("of none", Check.INDEX, 0, -1, MinuteBank::new, (bank, p) -> bank.needs(p, 600));
    }

    // "IllegalArgumentException if seconds is not 1 to 600"
    private static void needsSeconds() {
        Check.answers("1", 1, onTheClock(1, 0, 0), bank -> bank.needs(0, 1));
        Check.answers("600", 600, onTheClock(1, 0, 0), bank -> bank.needs(0, 600));
        Check.refusesOutside("seconds", Check.ARGUMENT, 1, 600, onTheClock(1, 0, 0), (bank, s) -> bank.needs(0, s));
        Check.refusesOutside("no games, seconds", Check.ARGUMENT, 1, 600, () -> at(0), (bank, s) -> bank.needs(0, s));
    }

    // "so that none of this one falls (comes to 0)"; "0 if none would fall"
    private static void needsNotToComeTo0() {
        Check.answers("it keeps 2", 0, onTheClock(100, 0, 0), bank -> bank.needs(0, 98));
        Check.answers("it keeps 1", 0, onTheClock(100, 0, 0), bank -> bank.needs(0, 99));
        Check.answers("it would come to 0", 1, onTheClock(100, 0, 0), bank -> bank.needs(0, 100));
        Check.answers("and one second more", 2, onTheClock(100, 0, 0), bank -> bank.needs(0, 101));
        MinuteBank bank = onTheClock(100, 0, 0).make();
        bank.borrow(0, 50, 0, 3600);
        bank.put(0, 0, bank.needs(0, 120));
        Check.same("with as many as it needs it does not fall", 0, bank.pass(120));
        Check.same("but has just 1", 1, bank.game(0, 2));
    }

    // the delay counts as it does in a second: what of it has gone by is gone
    private static void needsInTheDelay() {
        Check.answers("within the delay", 0, onTheClock(1, 30, 0), bank -> bank.needs(0, 30));
        Check.answers("one second behind it", 1, onTheClock(1, 30, 0), bank -> bank.needs(0, 31));
        Check.answers("one of it is left", 0, onTheClock(1, 30, 29), bank -> bank.needs(0, 1));
        Check.answers("one is left, and one behind it", 1, onTheClock(1, 30, 29), bank -> bank.needs(0, 2));
        Check.answers("none is left", 1, onTheClock(1, 30, 30), bank -> bank.needs(0, 1));
        Check.answers("it is over", 1, onTheClock(3, 30, 32), bank -> bank.needs(0, 1));
        Check.answers("it has been over for long", 600, onTheClock(101, 30, 130), bank -> bank.needs(0, 600));
    }

    // "in all"
    private static void needsInAll() {
        MinuteBank bank = at(0);
        bank.begin(0, 1, 10, 0, 0, 0);
        bank.begin(2, 0, 20, 0, 0, 0);
        bank.begin(0, 2, 10, 0, 1, 0);
        bank.press(1);
        Check.same("in none", 0, bank.needs(0, 9));
        Check.same("in one", 1, bank.needs(0, 10));
        Check.same("in two", 2 + 1, bank.needs(0, 11));
        Check.same("in three", 11 + 1 + 10, bank.needs(0, 20));
    }

    // "only games in which it is the turn of this one count"
    private static void needsOnlyInItsTurn() {
        MinuteBank bank = at(0);
        bank.begin(0, 1, 10, 0, 0, 0);
        bank.begin(0, 1, 10, 0, 0, 0);
        bank.end(1, -1);
        Check.same("side 0", 591, bank.needs(0, 600));
        Check.same("side 1", 0, bank.needs(1, 600));
        bank.press(0);
        Check.same("side 0, who has pressed", 0, bank.needs(0, 600));
        Check.same("side 1, whose turn it is then", 591, bank.needs(1, 600));
        bank.pass(10);
        Check.same("who has fallen", 0, bank.needs(1, 600));
    }

    // "(thieves, loans and arbiter do not matter)"
    private static void needsWithoutThievesLoansAndArbiter() {
        MinuteBank bank = at(0);
        bank.begin(0, 1, 100, 0, 0, 0);
        bank.steal(0, 1, 20);
        bank.borrow(0, 50, 0, 5);
        Check.lose(bank, 0, 1, 50);
        Check.same("80 on the clock", 0, bank.needs(0, 79));
        Check.same("it would come to 0", 1, bank.needs(0, 80));
    }

    // no exception is named for a time greater than 20000
    private static void needsBeyondTheLastSecond() {
        Check.Start last = () -> {
            MinuteBank bank = at(20000);
            bank.begin(0, 1, 5, 0, 0, 0);
            return bank;
        };
        Check.answers("at the last second", 596, last, bank -> bank.needs(0, 600));
    }

    // "0 if none runs"
    private static void meanOfNone() {
        Check.sameMean("no players", 0.0, new MinuteBank().mean());
        Check.sameMean("no games", 0.0, at(0).mean());
        MinuteBank bank = withClocks(5, 5, 5).make();
        bank.end(0, -1);
        bank.end(1, 0);
        Check.sameMean("one runs", 5.0, bank.mean());
        bank.pass(5);
        Check.sameMean("all have ended", 0.0, bank.mean());
    }

    // the mean is no whole number: nothing is cut
    private static void meanOfHalvesAndThirds() {
        MinuteBank bank = withClocks(2, 1, 1).make();
        Check.sameMean("8 / 6", 8.0 / 6.0, bank.mean());
        bank.pass(1);
        Check.sameMean("3 / 2", 1.5, bank.mean());
        MinuteBank greatest = at(0);
        for (int g = 0; g < 16; g++) {
            greatest.begin(0, 1, 7200, 30, 0, 0);
        }
        greatest.press(0);
        Check.sameMean("of 32 clocks", 7200.9375, greatest.mean());
    }

    /** The numbers of the digest, as the calls tell them. */
    static List<Long> told(MinuteBank bank) {
        List<Long> told = new ArrayList<>();
        for (int what = 0; what <= 10; what++) {
            told.add((long) bank.count(what));
        }
        for (int p = 0; p < bank.count(1); p++) {
            for (int what = 0; what <= 7; what++) {
                told.add((long) bank.player(p, what));
            }
        }
        for (int l = 0; l < bank.count(4); l++) {
            for (int what = 0; what <= 4; what++) {
                told.add((long) bank.loan(l, what));
            }
        }
        for (int g = 0; g < bank.count(2); g++) {
            for (int what = 0; what <= 10; what++) {
                told.add((long) bank.game(g, what));
            }
        }
        return told;
    }

    // "d becomes d * 31 + x, which wraps around as a 64-bit integer": that of an empty bank does already
    private static void digestWrapsAround() {
        Check.same("empty", -5513829241087389754L, new MinuteBank().digest());
        Check.same("empty, by its numbers", Model.wrapped(told(new MinuteBank())), new MinuteBank().digest());
        Check.same("by its numbers", Model.wrapped(told(playing())), playing().digest());
        MinuteBank full = EmptyAndFullTest.full();
        full.pass(40);
        Check.same("full, by its numbers", Model.wrapped(told(full)), full.digest());
    }

    // "seconds that are out (also less than 0)" go into it as they are
    private static void digestOfLessThan0() {
        MinuteBank bank = at(0);
        bank.begin(1, 0, 100, 0, 30, 0);
        bank.borrow(0, 10, 0, 60);
        bank.pass(60);
        Check.same("out", -1, bank.count(9));
        Check.same("by its numbers", Model.wrapped(told(bank)), bank.digest());
    }
}
