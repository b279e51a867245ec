/** The boundary cases of a second, and of promises 15 and 16; the sentence stands above each test. */
public final class SecondsEdgesTest {
    public static void main(String[] args) {
        passAmounts();
        passUpToTheLastSecond();
        countFacts();
        clockAtTheDelay();
        clockOf1();
        flagsOfOneSecond();
        clockThatDoesNotRun();
        interestEach60th();
        interestIsCut();
        interestUpTo1000000();
        interestOfOpenOnesOnly();
        dueJustThen();
        duePocketHoldsEnough();
        dueClocksHoldEnough();
        dueClockOf1();
        dueGamesInOrder();
        dueLoansInOrder();
        dueOwnClocksOfGamesThatRun();
        dueIsNotOutAnyMore();
        arbiterEach30th();
        arbiterFrom15();
        arbiterHalvesAndCuts();
        arbiterTakesTwiceButLeaves1();
        arbiterSide0First();
        arbiterGamesInOrder();
        stepsInTheirOrder();
        Check.finish();
    }

    private static MinuteBank at(int time) {
        MinuteBank bank = new MinuteBank();
        Check.passMany(bank, time);
        return bank;
    }

    private static MinuteBank two() {
        return Check.bankWith(2, 100000);
    }

    // "IllegalArgumentException if seconds is not 1 to 1200"
    private static void passAmounts() {
        Check.answers("1", 0, MinuteBank::new, bank -> bank.pass(1));
        Check.answers("1200", 0, MinuteBank::new, bank -> bank.pass(1200));
        Check.refusesOutside("seconds", Check.ARGUMENT, 1, 1200, MinuteBank::new, MinuteBank::pass);
        Check.refusesOutside("seconds", Check.ARGUMENT, 1, 1200, SecondsEdgesTest::busy, MinuteBank::pass);
        MinuteBank bank = new MinuteBank();
        bank.pass(1);
        Check.same("1 has gone by", 1, bank.count(0));
        bank.pass(1200);
        Check.same("1200 more", 1201, bank.count(0));
    }

    private static MinuteBank busy() {
        MinuteBank bank = two();
        bank.begin(0, 1, 300, 0, 0, 10);
        bank.borrow(1, 100, 50, 90);
        return bank;
    }

    // "IllegalStateException if the time would be greater than 20000"
    private static void passUpToTheLastSecond() {
        Check.answers("to 20000 by 1", 0, () -> at(19999), bank -> bank.pass(1));
        Check.refuses("to 20001 by 2", Check.STATE, () -> at(19999), bank -> bank.pass(2));
        Check.refuses("to 20001 by 1", Check.STATE, () -> at(20000), bank -> bank.pass(1));
        Check.refuses("to 21200", Check.STATE, () -> at(20000), bank -> bank.pass(1200));
        Check.answers("to 20000 by 1200", 0, () -> at(18800), bank -> bank.pass(1200));
        Check.refuses("to 20001 by 1200", Check.STATE, () -> at(18801), bank -> bank.pass(1200));
        Check.same("the time is 20000", 20000, at(20000).count(0));
    }

    // "IndexOutOfBoundsException if what is not 0 to 10"
    private static void countFacts() {
        Check.answers("what 0", 0, MinuteBank::new, bank -> bank.count(0));
        Check.answers("what 10", 0, MinuteBank::new, bank -> bank.count(10));
        Check.refusesOutside("what", Check.INDEX, 0, 10, MinuteBank::new, MinuteBank::count);
        Check.refusesOutside("what", Check.INDEX, 0, 10, SecondsEdgesTest::busy, MinuteBank::count);
    }

    private static MinuteBank playing(int clock, int delay) {
        MinuteBank bank = two();
        bank.begin(0, 1, clock, 0, delay, 0);
        return bank;
    }

    // "if these are more than the delay, the clock of the side whose turn it is has one second less"
    private static void clockAtTheDelay() {
        int[] delays = {0, 1, 29, 30};
        for (int delay : delays) {
            MinuteBank bank = playing(100, delay);
            if (delay > 0) {
                bank.pass(delay);
            }
            Check.same("as many as the delay of " + delay, 100, bank.game(0, 2));
            Check.same("they are counted", delay, bank.game(0, 6));
            bank.pass(1);
            Check.same("one more than the delay of " + delay, 99, bank.game(0, 2));
            bank.pass(1);
            Check.same("two more than the delay of " + delay, 98, bank.game(0, 2));
            Check.same("the other clock", 100, bank.game(0, 3));
        }
    }

    // "At 0 the flag falls: the other side wins"
    private static void clockOf1() {
        MinuteBank bank = playing(2, 0);
        Check.same("at 1 it does not fall", 0, bank.pass(1));
        Check.game("at 1", bank, 0, 0, 1, 1, 2, 0, 0, 1, 0, 0, 0, 0);
        Check.same("at 0 it falls", 1, bank.pass(1));
        Check.game("at 0", bank, 0, 0, 1, 0, 2, 0, 0, 2, 2, 0, 0, 0);
        Check.same("it falls once", 0, bank.pass(1));
        Check.game("later", bank, 0, 0, 1, 0, 2, 0, 0, 2, 2, 0, 0, 0);
        MinuteBank delayed = playing(1, 30);
        Check.same("1 in the delay", 0, delayed.pass(30));
        Check.same("it runs", 0, delayed.game(0, 7));
        Check.same("1 behind the delay", 1, delayed.pass(1));
        MinuteBank pressed = playing(1, 0);
        pressed.press(0);
        pressed.pass(1);
        Check.game("side 1 falls", pressed, 0, 0, 1, 1, 0, 1, 1, 1, 1, 0, 0, 0);
    }

    // "Returns how many games ended in them"
    private static void flagsOfOneSecond() {
        MinuteBank bank = two();
        int[] clocks = {5, 6, 5, 7};
        for (int clock : clocks) {
            bank.begin(0, 1, clock, 0, 0, 0);
        }
        bank.end(3, -1);
        Check.same("a second too few", 0, bank.pass(4));
        Check.same("two in one second", 2, bank.pass(1));
        Check.same("one", 1, bank.pass(1));
        Check.same("the stopped one does not count", 0, bank.pass(1));
        Check.answers("all in one call", 3, () -> {
            MinuteBank all = two();
            for (int clock : clocks) {
                all.begin(0, 1, clock, 0, 0, 0);
            }
            all.end(3, -1);
            return all;
        }, all -> all.pass(7));
    }

    // "In each game that runs": of an ended one nothing goes on
    private static void clockThatDoesNotRun() {
        MinuteBank bank = playing(100, 0);
        bank.pass(3);
        bank.end(0, 1);
        bank.pass(60);
        Check.game("it stands", bank, 0, 0, 1, 97, 100, 0, 0, 3, 1, 0, 0, 0);
    }

    private static MinuteBank owing(int n, int rate) {
        MinuteBank bank = two();
        bank.borrow(0, n, rate, 3600);
        return bank;
    }

    // "Each 60th second (60, 120 ..)"; "first the time is 1 greater"
    private static void interestEach60th() {
        MinuteBank bank = owing(1000, 10);
        int[] times = {1, 30, 59, 60, 61, 119, 120, 121, 180};
        int[] owed = {1000, 1000, 1000, 1011, 1011, 1011, 1022, 1022, 1033};
        for (int i = 0; i < times.length; i++) {
            bank.pass(times[i] - bank.count(0));
            Check.same("owed at " + times[i], owed[i], bank.loan(0, 1));
        }
        MinuteBank late = two();
        late.pass(59);
        late.borrow(0, 1000, 10, 3600);
        late.pass(1);
        Check.same("borrowed one second ahead", 1011, late.loan(0, 1));
        late.borrow(0, 1000, 10, 3600);
        late.pass(59);
        Check.same("borrowed at the 60th", 1000, late.loan(1, 1));
        late.pass(1);
        Check.same("borrowed at the 60th, 60 later", 1011, late.loan(1, 1));
    }

    // "owed * rate / 1000 and 1 more", "/ is cut towards 0"
    private static void interestIsCut() {
        int[] owed = {1, 5000, 9, 10, 19, 999, 1000, 1001, 5000};
        int[] rates = {0, 0, 100, 100, 100, 1, 1, 1, 100};
        int[] more = {1, 1, 1, 2, 2, 1, 2, 2, 501};
        for (int i = 0; i < owed.length; i++) {
            MinuteBank bank = owing(owed[i], rates[i]);
            bank.pass(60);
            Check.same(owed[i] + " at " + rates[i], owed[i] + more[i], bank.loan(0, 1));
            Check.same("it is not out", owed[i], bank.count(9));
        }
    }

    /** 55 times interest, and 909145 are owed. */
    private static MinuteBank owingMuch() {
        MinuteBank bank = two();
        bank.pass(1);
        bank.borrow(0, 4803, 100, 3600);
        Check.passMany(bank, 3300);
        Check.same("ahead of it", 909145, bank.loan(0, 1));
        return bank;
    }

    private static void owes(int owed, MinuteBank bank, int repaid) {
        bank.repay(0, repaid);
        bank.pass(60);
        Check.same("after " + repaid + " were repaid", owed, bank.loan(0, 1));
    }

    // "but no more than 1000000 in all"
    private static void interestUpTo1000000() {
        owes(999998, owingMuch(), 56);
        owes(1000000, owingMuch(), 55);
        owes(1000000, owingMuch(), 54);
        owes(1000000, owingMuch(), 1);
        MinuteBank bank = owingMuch();
        owes(1000000, bank, 55);
        bank.pass(60);
        Check.same("it stays so", 1000000, bank.loan(0, 1));
        owes(1000000, bank, 1);
        Check.same("in all", 1000000, bank.player(0, 5));
    }

    // "each open loan owes"
    private static void interestOfOpenOnesOnly() {
        MinuteBank bank = two();
        bank.borrow(0, 100, 100, 3600);
        bank.borrow(0, 100, 100, 3600);
        bank.borrow(1, 100, 100, 20);
        Check.lose(bank, 1, 0, 100);
        bank.repay(0, 100);
        bank.pass(60);
        Check.loan("a closed one", bank, 0, 0, 0, 100, 3600, 1);
        Check.loan("an open one", bank, 1, 0, 111, 100, 3600, 0);
        Check.loan("a bad one", bank, 2, 1, 100, 100, 20, 2);
    }

    // "Each open loan that is due at this time"
    private static void dueJustThen() {
        MinuteBank bank = two();
        bank.pass(5);
        bank.borrow(0, 100, 0, 1);
        bank.borrow(0, 100, 0, 2);
        bank.pass(1);
        Check.loan("the first", bank, 0, 0, 0, 0, 6, 1);
        Check.loan("the second is not due yet", bank, 1, 0, 100, 0, 7, 0);
        bank.pass(1);
        Check.loan("the second", bank, 1, 0, 0, 0, 7, 1);
        MinuteBank last = at(19999);
        last.addPlayer(100);
        last.borrow(0, 100, 0, 1);
        last.borrow(0, 100, 0, 2);
        last.pass(1);
        Check.loan("due at the last second", last, 0, 0, 0, 0, 20000, 1);
        Check.loan("due behind it", last, 1, 0, 100, 0, 20001, 0);
    }

    private static void collects(int pocket, int owedStill, int pocketStill) {
        MinuteBank bank = two();
        bank.borrow(0, 100, 0, 5);
        if (pocket > 100) {
            bank.buy(0, pocket - 100);
        } else if (pocket < 100) {
            Check.lose(bank, 0, 1, 100 - pocket);
        }
        bank.pass(5);
        String what = "100 of " + pocket;
        Check.loan(what, bank, 0, 0, owedStill, 0, 5, owedStill == 0 ? 1 : 2);
        Check.same(what + ", the pocket", pocketStill, bank.player(0, 1));
        Check.same(what + ", bad ones", owedStill == 0 ? 0 : 1, bank.player(0, 6));
        Check.same(what + ", open ones", 0, bank.count(5));
    }

    // "as much as is owed is taken from the pocket of its player, at most all"; "With nothing owed it is closed"
    private static void duePocketHoldsEnough() {
        collects(101, 0, 1);
        collects(100, 0, 0);
        collects(99, 1, 0);
        collects(1, 99, 0);
        collects(0, 100, 0);
    }

    /** Player 0 owes 100 with an empty pocket, and has a clock that does not run; all is due in 5. */
    private static void collectsFromAClock(int clock, int owedStill, int clockStill) {
        MinuteBank bank = two();
        bank.borrow(0, 100, 0, 5);
        Check.lose(bank, 0, 1, 100);
        bank.begin(1, 0, clock, 0, 30, 0);
        bank.pass(5);
        String what = "100 of a clock of " + clock;
        Check.loan(what, bank, 0, 0, owedStill, 0, 5, owedStill == 0 ? 1 : 2);
        Check.same(what + ", the clock", clockStill, bank.game(1, 3));
        Check.same(what + ", the other one's clock", clock, bank.game(1, 2));
        Check.same(what + ", the game runs", 0, bank.game(1, 7));
    }

    // "if more is owed still, from this player's own clocks ..., but each keeps at least 1"
    private static void dueClocksHoldEnough() {
        collectsFromAClock(102, 0, 2);
        collectsFromAClock(101, 0, 1);
        collectsFromAClock(100, 1, 1);
        collectsFromAClock(99, 2, 1);
    }

    // "each keeps at least 1": of 1 nothing can be taken
    private static void dueClockOf1() {
        collectsFromAClock(2, 99, 1);
        collectsFromAClock(1, 100, 1);
    }

    // "in the games that run, in ascending order"
    private static void dueGamesInOrder() {
        int[] owed = {8, 9, 10, 18, 19, 27, 28};
        int[][] clocks = {{2, 10, 10}, {1, 10, 10}, {1, 9, 10}, {1, 1, 10}, {1, 1, 9}, {1, 1, 1}, {1, 1, 1}};
        for (int i = 0; i < owed.length; i++) {
            MinuteBank bank = two();
            bank.borrow(0, owed[i], 0, 1);
            Check.lose(bank, 0, 1, owed[i]);
            bank.begin(1, 0, 10, 0, 30, 0);
            bank.begin(0, 1, 10, 0, 30, 0);
            bank.begin(1, 0, 10, 0, 30, 0);
            bank.pass(1);
            String what = owed[i] + " of three clocks";
            Check.same(what + ", the first", clocks[i][0], bank.game(1, 3));
            Check.same(what + ", the second", clocks[i][1], bank.game(2, 2));
            Check.same(what + ", the third", clocks[i][2], bank.game(3, 3));
            Check.same(what + ", owed", Math.max(0, owed[i] - 27), bank.loan(0, 1));
            Check.same(what + ", how it stands", owed[i] > 27 ? 2 : 1, bank.loan(0, 4));
        }
    }

    // "Each open loan that is due at this time, in ascending order"
    private static void dueLoansInOrder() {
        MinuteBank bank = two();
        bank.begin(1, 0, 15, 0, 30, 0);
        bank.borrow(0, 30, 0, 10);
        bank.borrow(1, 7, 0, 10);
        bank.borrow(0, 30, 0, 10);
        Check.lose(bank, 0, 1, 20);
        bank.pass(10);
        Check.loan("the pocket is enough", bank, 0, 0, 0, 0, 10, 1);
        Check.loan("another player's", bank, 1, 1, 0, 0, 10, 1);
        Check.loan("the rest, and the clock", bank, 2, 0, 6, 0, 10, 2);
        Check.same("the clock keeps 1", 1, bank.game(0, 3));
    }

    // "this player's own clocks in the games that run"
    private static void dueOwnClocksOfGamesThatRun() {
        MinuteBank bank = Check.bankWith(3, 1000);
        bank.borrow(0, 50, 0, 5);
        Check.lose(bank, 0, 1, 50);
        bank.begin(0, 1, 40, 0, 30, 0);
        bank.begin(0, 1, 4, 0, 0, 0);
        bank.begin(1, 2, 40, 0, 30, 0);
        bank.begin(2, 0, 40, 0, 30, 0);
        bank.end(1, 0);
        bank.pass(5);
        Check.same("given up", 40, bank.game(1, 2));
        Check.same("its flag fell", 0, bank.game(2, 2));
        Check.same("white of others", 40, bank.game(3, 2));
        Check.same("black of others", 40, bank.game(3, 3));
        Check.same("the other side", 40, bank.game(4, 2));
        Check.same("the own one", 1, bank.game(4, 3));
        Check.loan("the rest", bank, 0, 0, 11, 0, 5, 2);
    }

    // "What is taken goes to the reserve, and is not out any more"; "9 seconds that are out (also less than 0)"
    private static void dueIsNotOutAnyMore() {
        int[] lost = {0, 1, 10};
        for (int n : lost) {
            MinuteBank bank = two();
            bank.borrow(0, 10, 0, 60);
            if (n > 0) {
                Check.lose(bank, 0, 1, n);
            }
            bank.begin(1, 0, 100, 0, 30, 0);
            bank.pass(60);
            Check.same("11 are taken, out", -1, bank.count(9));
            Check.same("11 are taken, the reserve", 100001, bank.count(6));
            Check.same("from the clock", 100 - 1 - n, bank.game(n > 0 ? 1 : 0, 3));
        }
    }

    /** Side 1 of the only game steals so many, at most 40. */
    private static MinuteBank stolen(int clock, int n) {
        MinuteBank bank = two();
        bank.begin(0, 1, clock, 0, 30, 0);
        int left = n;
        while (left > 0) {
            left -= bank.steal(0, 1, Math.min(20, left));
        }
        return bank;
    }

    // "Each 30th second"
    private static void arbiterEach30th() {
        MinuteBank bank = stolen(100, 14);
        int[] times = {29, 30, 31, 59, 60, 61, 89, 90, 120, 150};
        int[] counted = {14, 7, 7, 7, 3, 3, 3, 1, 0, 0};
        for (int i = 0; i < times.length; i++) {
            bank.pass(times[i] - bank.count(0));
            Check.same("counted at " + times[i], counted[i], bank.game(0, 9));
            bank.press(0);
        }
        MinuteBank caught = stolen(100, 15);
        caught.pass(29);
        Check.same("at 29", 0, caught.count(10));
        caught.pass(1);
        Check.same("at 30", 1, caught.count(10));
    }

    // "if a side has stolen at least 15 seconds since the arbiter looked last (or what was left over then, with them)"
    private static void arbiterFrom15() {
        MinuteBank less = stolen(100, 14);
        less.pass(30);
        Check.game("14", less, 0, 0, 1, 86, 114, 0, 0, 30, 0, 0, 7, 0);
        Check.same("is not caught", 0, less.player(1, 7));
        MinuteBank just = stolen(100, 15);
        just.pass(30);
        Check.game("15", just, 0, 0, 1, 115, 85, 0, 0, 30, 0, 0, 0, 0);
        Check.same("is caught", 1, just.player(1, 7));
        Check.same("the other one is not", 0, just.player(0, 7));
        arbiterWithWhatWasLeftOver(7, 0);
        arbiterWithWhatWasLeftOver(8, 1);
        arbiterOfSide0(14, 7, 114, 86);
        arbiterOfSide0(15, 0, 85, 115);
    }

    private static void arbiterOfSide0(int stolen, int counted, int clock, int other) {
        MinuteBank bank = two();
        bank.begin(1, 0, 100, 0, 30, 0);
        bank.press(0);
        bank.steal(0, 0, stolen);
        bank.pass(30);
        Check.game("side 0 stole " + stolen, bank, 0, 1, 0, clock, other, 1, 1, 30, 0, counted, 0, 0);
        Check.same("side 0 stole " + stolen + ", caught", counted == 0 ? 1 : 0, bank.player(1, 7));
    }

    private static void arbiterWithWhatWasLeftOver(int more, int caught) {
        MinuteBank bank = stolen(1000, 14);
        bank.pass(30);
        bank.steal(0, 1, more);
        Check.same("7 and " + more, 7 + more, bank.game(0, 9));
        bank.pass(30);
        Check.same("7 and " + more + ", caught", caught, bank.player(1, 7));
        Check.same("7 and " + more + ", counted", caught == 1 ? 0 : (7 + more) / 2, bank.game(0, 9));
        Check.same("7 and " + more + ", given back", caught * 2 * (7 + more), 1014 + more - bank.game(0, 3));
    }

    // "Otherwise its count is halved", "/ is cut towards 0"
    private static void arbiterHalvesAndCuts() {
        int[] counted = {0, 1, 2, 3, 13, 14};
        for (int n : counted) {
            MinuteBank bank = stolen(100, n);
            bank.pass(30);
            Check.same("half of " + n, n / 2, bank.game(0, 9));
            Check.same("the clock of who stole " + n, 100 + n, bank.game(0, 3));
            Check.same("nobody is caught", 0, bank.count(10));
        }
    }

    /** The thief has so many on the clock when the arbiter comes at 30, and the other one as many. */
    private static void catchesWith(int clock, int kept) {
        MinuteBank bank = two();
        bank.begin(0, 1, clock + 15, 0, 0, 0);
        bank.steal(0, 1, 15);
        bank.press(0);
        bank.pass(30);
        String what = "15 stolen, a clock of " + clock;
        Check.game(what, bank, 0, 0, 1, clock + clock - kept, kept, 1, 1, 30, 0, 0, 0, 0);
        Check.same(what + ", caught", 1, bank.player(1, 7));
    }

    // "twice as much goes from its clock to the other one, but its clock keeps at least 1"
    private static void arbiterTakesTwiceButLeaves1() {
        catchesWith(32, 2);
        catchesWith(31, 1);
        catchesWith(30, 1);
        catchesWith(2, 1);
        catchesWith(1, 1);
        MinuteBank much = stolen(100, 40);
        much.pass(30);
        Check.game("twice 40", much, 0, 0, 1, 140, 60, 0, 0, 30, 0, 0, 0, 0);
    }

    // "side 0 ahead of side 1"
    private static void arbiterSide0First() {
        MinuteBank bank = stolen(20, 19);
        bank.press(0);
        bank.steal(0, 0, 19);
        Check.game("ahead", bank, 0, 0, 1, 20, 20, 1, 1, 0, 0, 19, 19, 0);
        bank.pass(30);
        // side 0 gives 19 of its 20, then side 1 gives 38 of its 39: the other way round it would be 39 and 1
        Check.game("behind", bank, 0, 0, 1, 39, 1, 1, 1, 30, 0, 0, 0, 0);
        Check.same("both are caught", 2, bank.count(10));
    }

    // "in each game that runs, in ascending order": each is looked at by itself
    private static void arbiterGamesInOrder() {
        MinuteBank bank = two();
        for (int g = 0; g < 4; g++) {
            bank.begin(0, 1, 100, 0, 30, 0);
            bank.steal(g, 1, 14);
        }
        bank.steal(1, 1, 1);
        bank.steal(3, 1, 1);
        bank.end(3, -1);
        bank.pass(30);
        Check.same("14", 7, bank.game(0, 9));
        Check.same("15", 0, bank.game(1, 9));
        Check.same("14 again", 7, bank.game(2, 9));
        Check.same("15, but it was stopped", 15, bank.game(3, 9));
        Check.same("caught once", 1, bank.player(1, 7));
        Check.same("how often somebody was", 1, bank.count(10));
    }

    // "A second goes like this": clocks, interest, due, arbiter
    private static void stepsInTheirOrder() {
        MinuteBank fallsFirst = two();
        fallsFirst.borrow(0, 10, 0, 60);
        Check.lose(fallsFirst, 0, 1, 10);
        fallsFirst.begin(0, 1, 60, 0, 0, 0);
        fallsFirst.begin(1, 0, 100, 0, 0, 0);
        fallsFirst.pass(60);
        Check.game("the flag ahead of the due", fallsFirst, 1, 0, 1, 0, 60, 0, 0, 60, 2, 0, 0, 0);
        Check.loan("interest ahead of the due", fallsFirst, 0, 0, 0, 0, 60, 1);
        Check.same("11 are taken", 89, fallsFirst.game(2, 3));
        MinuteBank dueFirst = stolen(100, 15);
        dueFirst.borrow(1, 114, 0, 30);
        Check.lose(dueFirst, 1, 0, 114);
        dueFirst.pass(30);
        Check.game("the due ahead of the arbiter", dueFirst, 0, 0, 1, 85, 1, 0, 0, 30, 0, 0, 0, 0);
        Check.loan("all is paid", dueFirst, 0, 1, 0, 0, 30, 1);
        Check.same("caught all the same", 1, dueFirst.player(1, 7));
        MinuteBank flagFirst = two();
        flagFirst.begin(0, 1, 45, 0, 0, 0);
        flagFirst.steal(0, 1, 15);
        flagFirst.pass(30);
        Check.game("the flag ahead of the arbiter", flagFirst, 0, 0, 1, 0, 60, 0, 0, 30, 2, 0, 15, 0);
        Check.same("nobody is caught", 0, flagFirst.count(10));
    }
}
