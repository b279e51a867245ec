/** A bank of chess clocks, which sells and lends time. */
public final class MinuteBank {
    private static final int MAX_PLAYERS = 8;
    private static final int MAX_GAMES = 16;
    private static final int MAX_LOANS = 20;
    private static final int MAX_OPEN_LOANS = 3;
    private static final int MAX_COINS = 1000000;
    private static final int MAX_TRADE = 10000;
    private static final int MAX_LENT = 5000;
    private static final int MAX_RATE = 100;
    private static final int MAX_TERM = 3600;
    private static final int MAX_OWED = 1000000;
    private static final int MAX_REPAID = 1000000;
    private static final int MAX_CLOCK_AT_FIRST = 7200;
    private static final int MAX_INCREMENT = 30;
    private static final int MAX_DELAY = 30;
    private static final int MAX_STAKE = 10000;
    private static final int MAX_PUT = 3600;
    private static final int MAX_STOLEN_AT_ONCE = 20;
    private static final int MAX_PASSED = 1200;
    private static final int MAX_FORESEEN = 2400;
    private static final int MAX_NEEDED = 600;
    private static final int LAST_TIME = 20000;

    private static final int FIRST_RESERVE = 100000;
    private static final int LOWEST_PRICE = 3;
    private static final int INTEREST_EACH = 60;
    private static final int ARBITER_EACH = 30;
    private static final int CAUGHT_FROM = 15;

    private static final int STOP = -1;
    private static final int NONE = -1;

    private static final int PLAYER_FACTS = 8;
    private static final int LOAN_FACTS = 5;
    private static final int GAME_FACTS = 11;
    private static final int COUNT_FACTS = 11;
    private static final int FORESEEN_FACTS = 4;

    private final State now = new State();

    // Made once and filled anew by each foresee: new rows for each call would not fit into the room.
    private final State ahead = new State();

    public MinuteBank() {
    }

    // ---- players

    public int addPlayer(int coins) throws IllegalArgumentException, IllegalStateException {
        if (isOutside(coins, 0, MAX_COINS)) {
            throw new IllegalArgumentException("coins is not 0 to 1000000");
        }
        if (now.playerCount >= now.players.length) {
            throw new IllegalStateException("there are 8 players");
        }
        int number = now.playerCount;
        now.playerCount++;
        now.playerAt(number).coins = coins;
        return number;
    }

    public int player(int player, int what) throws IndexOutOfBoundsException {
        Player row = now.playerAt(player);
        switch (what) {
            case 0: return row.coins;
            case 1: return row.pocket;
            case 2: return now.gamesRunningOf(player);
            case 3: return row.won;
            case 4: return row.lost;
            case 5: return now.owedBy(player);
            case 6: return now.loansOf(player, Loan.BAD);
            case 7: return row.caught;
            default: throw new IndexOutOfBoundsException("what is not 0 to 7");
        }
    }

    public int buy(int player, int n)
            throws IndexOutOfBoundsException, IllegalArgumentException, IllegalStateException {
        Player buyer = now.playerAt(player);
        if (isOutside(n, 1, MAX_TRADE)) {
            throw new IllegalArgumentException("n is not 1 to 10000");
        }
        int cost = n * now.currentPrice() / 10 + 1;
        if (n > now.reserve) {
            throw new IllegalStateException("the reserve does not hold so many");
        }
        if (cost > buyer.coins) {
            throw new IllegalStateException("the player does not have the coins");
        }
        now.handOut(buyer, n);
        buyer.coins -= cost;
        now.coins += cost;
        return cost;
    }

    public int sell(int player, int n)
            throws IndexOutOfBoundsException, IllegalArgumentException, IllegalStateException {
        Player seller = now.playerAt(player);
        if (isOutside(n, 1, MAX_TRADE)) {
            throw new IllegalArgumentException("n is not 1 to 10000");
        }
        int gain = n * now.currentPrice() / 20;
        if (n > seller.pocket) {
            throw new IllegalStateException("the pocket does not hold so many");
        }
        if (gain > now.coins) {
            throw new IllegalStateException("the bank does not have the coins");
        }
        seller.pocket -= n;
        now.reserve += n;
        seller.coins += gain;
        now.coins -= gain;
        return gain;
    }

    // ---- loans

    public int borrow(int player, int n, int rate, int seconds)
            throws IndexOutOfBoundsException, IllegalArgumentException, IllegalStateException {
        Player borrower = now.playerAt(player);
        if (isOutside(n, 1, MAX_LENT)) {
            throw new IllegalArgumentException("n is not 1 to 5000");
        }
        if (isOutside(rate, 0, MAX_RATE)) {
            throw new IllegalArgumentException("rate is not 0 to 100");
        }
        if (isOutside(seconds, 1, MAX_TERM)) {
            throw new IllegalArgumentException("seconds is not 1 to 3600");
        }
        if (n > now.reserve) {
            throw new IllegalStateException("the reserve does not hold so many");
        }
        if (now.loansOf(player, Loan.BAD) > 0 || now.loansOf(player, Loan.OPEN) >= MAX_OPEN_LOANS) {
            throw new IllegalStateException("the player has a bad loan or three open ones");
        }
        if (now.loanCount >= now.loans.length) {
            throw new IllegalStateException("there are 20 loans");
        }
        int number = now.loanCount;
        now.loanCount++;
        now.loanAt(number).open(player, n, rate, now.time + seconds);
        now.handOut(borrower, n);
        return number;
    }

    public int repay(int loan, int n)
            throws IndexOutOfBoundsException, IllegalArgumentException, IllegalStateException {
        Loan row = now.loanAt(loan);
        if (isOutside(n, 1, MAX_REPAID)) {
            throw new IllegalArgumentException("n is not 1 to 1000000");
        }
        if (row.status == Loan.CLOSED) {
            throw new IllegalStateException("the loan is closed");
        }
        int paid = now.takeFromPocket(row, n);
        if (row.owed == 0) {
            row.status = Loan.CLOSED;
        }
        return paid;
    }

    public int loan(int loan, int what) throws IndexOutOfBoundsException {
        Loan row = now.loanAt(loan);
        switch (what) {
            case 0: return row.player;
            case 1: return row.owed;
            case 2: return row.rate;
            case 3: return row.due;
            case 4: return row.status;
            default: throw new IndexOutOfBoundsException("what is not 0 to 4");
        }
    }

    // ---- games

    public int begin(int white, int black, int seconds, int increment, int delay, int stake)
            throws IndexOutOfBoundsException, IllegalArgumentException, IllegalStateException {
        Player first = now.playerAt(white);
        Player second = now.playerAt(black);
        if (white == black) {
            throw new IllegalArgumentException("both players are the same");
        }
        if (isOutside(seconds, 1, MAX_CLOCK_AT_FIRST)) {
            throw new IllegalArgumentException("seconds is not 1 to 7200");
        }
        if (isOutside(increment, 0, MAX_INCREMENT) || isOutside(delay, 0, MAX_DELAY)) {
            throw new IllegalArgumentException("increment or delay is not 0 to 30");
        }
        if (isOutside(stake, 0, MAX_STAKE)) {
            throw new IllegalArgumentException("stake is not 0 to 10000");
        }
        if (stake > first.coins || stake > second.coins) {
            throw new IllegalStateException("one of both does not have the stake");
        }
        if (now.gameCount >= now.games.length) {
            throw new IllegalStateException("there are 16 games");
        }
        int number = now.gameCount;
        now.gameCount++;
        Game row = now.gameAt(number);
        row.sitDown(white, black, seconds);
        row.start(number, increment, delay, stake);
        first.coins -= stake;
        second.coins -= stake;
        return number;
    }

    public int press(int game) throws IndexOutOfBoundsException, IllegalStateException {
        Game row = now.gameAt(game);
        if (!row.runs()) {
            throw new IllegalStateException("the game has ended");
        }
        row.move();
        return row.moves;
    }

    public int put(int game, int side, int n)
            throws IndexOutOfBoundsException, IllegalArgumentException, IllegalStateException {
        Game row = now.gameAt(game);
        if (isOutside(side, 0, 1)) {
            throw new IllegalArgumentException("side is not 0 to 1");
        }
        if (isOutside(n, 1, MAX_PUT)) {
            throw new IllegalArgumentException("n is not 1 to 3600");
        }
        if (!row.runs()) {
            throw new IllegalStateException("the game has ended");
        }
        Side own = row.sideAt(side);
        Player giver = now.playerAt(own.player);
        if (n > giver.pocket) {
            throw new IllegalStateException("the pocket does not hold so many");
        }
        giver.pocket -= n;
        own.clock += n;
        return own.clock;
    }

    public int steal(int game, int side, int n)
            throws IndexOutOfBoundsException, IllegalArgumentException, IllegalStateException {
        Game row = now.gameAt(game);
        if (isOutside(side, 0, 1)) {
            throw new IllegalArgumentException("side is not 0 to 1");
        }
        if (isOutside(n, 1, MAX_STOLEN_AT_ONCE)) {
            throw new IllegalArgumentException("n is not 1 to 20");
        }
        if (!row.runs()) {
            throw new IllegalStateException("the game has ended");
        }
        if (row.turn == side) {
            throw new IllegalStateException("it is the turn of this side");
        }
        Side thief = row.sideAt(side);
        int stolen = row.sideAt(1 - side).giveTo(thief, n);
        thief.stolen += stolen;
        return stolen;
    }

    public int end(int game, int side)
            throws IndexOutOfBoundsException, IllegalArgumentException, IllegalStateException {
        Game row = now.gameAt(game);
        if (isOutside(side, STOP, 1)) {
            throw new IllegalArgumentException("side is not -1 to 1");
        }
        if (!row.runs()) {
            throw new IllegalStateException("the game has ended");
        }
        if (side == STOP) {
            now.stop(row);
            return 0;
        }
        return now.awardTo(row, 1 - side);
    }

    public int game(int game, int what) throws IndexOutOfBoundsException {
        Game row = now.gameAt(game);
        switch (what) {
            case 0: return row.white.player;
            case 1: return row.black.player;
            case 2: return row.white.clock;
            case 3: return row.black.clock;
            case 4: return row.turn;
            case 5: return row.moves;
            case 6: return row.turnSeconds;
            case 7: return row.status;
            case 8: return row.white.stolen;
            case 9: return row.black.stolen;
            case 10: return row.stake;
            default: throw new IndexOutOfBoundsException("what is not 0 to 10");
        }
    }

    // ---- seconds

    public int pass(int seconds) throws IllegalArgumentException, IllegalStateException {
        if (isOutside(seconds, 1, MAX_PASSED)) {
            throw new IllegalArgumentException("seconds is not 1 to 1200");
        }
        if (now.time + seconds > LAST_TIME) {
            throw new IllegalStateException("the time would be greater than 20000");
        }
        now.letGoBy(seconds);
        return now.fallen;
    }

    public int count(int what) throws IndexOutOfBoundsException {
        switch (what) {
            case 0: return now.time;
            case 1: return now.playerCount;
            case 2: return now.gameCount;
            case 3: return now.gamesRunning();
            case 4: return now.loanCount;
            case 5: return now.openLoans();
            case 6: return now.reserve;
            case 7: return now.coins;
            case 8: return now.currentPrice();
            case 9: return now.secondsOut();
            case 10: return now.caught;
            default: throw new IndexOutOfBoundsException("what is not 0 to 10");
        }
    }

    // ---- looking ahead

    public int foresee(int seconds, int what)
            throws IllegalArgumentException, IndexOutOfBoundsException, IllegalStateException {
        if (isOutside(seconds, 1, MAX_FORESEEN)) {
            throw new IllegalArgumentException("seconds is not 1 to 2400");
        }
        if (isOutside(what, 0, FORESEEN_FACTS - 1)) {
            throw new IndexOutOfBoundsException("what is not 0 to 3");
        }
        if (now.time + seconds > LAST_TIME) {
            throw new IllegalStateException("the time would be greater than 20000");
        }
        ahead.copy(now);
        ahead.letGoBy(seconds);
        switch (what) {
            case 0: return ahead.firstFallen;
            case 1: return ahead.firstFallTime;
            case 2: return ahead.fallen;
            default: return ahead.goneBad;
        }
    }

    public int leader(int place) throws IndexOutOfBoundsException {
        for (int p = 0; p < now.playerCount; p++) {
            if (now.playersAheadOf(p) == place) {
                return p;
            }
        }
        throw new IndexOutOfBoundsException("there are not so many players");
    }

    public int needs(int player, int seconds) throws IndexOutOfBoundsException, IllegalArgumentException {
        if (isOutside(player, 0, now.playerCount - 1)) {
            throw new IndexOutOfBoundsException("no such player");
        }
        if (isOutside(seconds, 1, MAX_NEEDED)) {
            throw new IllegalArgumentException("seconds is not 1 to 600");
        }
        int needed = 0;
        for (Game row : now.games) {
            if (row.runs() && row.mover().player == player) {
                needed += row.missingFor(seconds);
            }
        }
        return needed;
    }

    public double mean() {
        int clocks = 0;
        int sum = 0;
        for (Game row : now.games) {
            if (row.runs()) {
                clocks += 2;
                sum += row.white.clock + row.black.clock;
            }
        }
        return clocks == 0 ? 0.0 : (double) sum / clocks;
    }

    public long digest() {
        long d = 509;
        for (int what = 0; what < COUNT_FACTS; what++) {
            d = d * 31 + count(what);
        }
        d = digestPlayers(d);
        d = digestLoans(d);
        return digestGames(d);
    }

    private long digestPlayers(long start) {
        long d = start;
        for (int p = 0; p < now.playerCount; p++) {
            for (int what = 0; what < PLAYER_FACTS; what++) {
                d = d * 31 + player(p, what);
            }
        }
        return d;
    }

    private long digestLoans(long start) {
        long d = start;
        for (int l = 0; l < now.loanCount; l++) {
            for (int what = 0; what < LOAN_FACTS; what++) {
                d = d * 31 + loan(l, what);
            }
        }
        return d;
    }

    private long digestGames(long start) {
        long d = start;
        for (int g = 0; g < now.gameCount; g++) {
            for (int what = 0; what < GAME_FACTS; what++) {
                d = d * 31 + game(g, what);
            }
        }
        return d;
    }

    private static boolean isOutside(int x, int least, int most) {
        return x < least || x > most;
    }

    private static final class Player {
        int coins;
        int pocket;
        int won;
        int lost;
        int caught;

        void copy(Player from) {
            coins = from.coins;
            pocket = from.pocket;
            won = from.won;
            lost = from.lost;
            caught = from.caught;
        }

        /** Whether this one leads the other by games, or by coins; their numbers are not looked at. */
        boolean leads(Player other) {
            int more = (won - lost) - (other.won - other.lost);
            return more != 0 ? more > 0 : coins > other.coins;
        }
    }

    private static final class Loan {
        static final int UNUSED = -1;
        static final int OPEN = 0;
        static final int CLOSED = 1;
        static final int BAD = 2;

        int player;
        int owed;
        int rate;
        int due;
        int status = UNUSED;

        void open(int borrower, int n, int itsRate, int itsDue) {
            player = borrower;
            owed = n;
            rate = itsRate;
            due = itsDue;
            status = OPEN;
        }

        void copy(Loan from) {
            player = from.player;
            owed = from.owed;
            rate = from.rate;
            due = from.due;
            status = from.status;
        }

        void addInterest() {
            owed = Math.min(MAX_OWED, owed + owed * rate / 1000 + 1);
        }
    }

    /** What a game knows of one of its two players. */
    private static final class Side {
        int player;
        int clock;
        int stolen;

        void sit(int itsPlayer, int seconds) {
            player = itsPlayer;
            clock = seconds;
            stolen = 0;
        }

        void copy(Side from) {
            player = from.player;
            clock = from.clock;
            stolen = from.stolen;
        }

        /** Takes seconds off this clock, which keeps at least 1; returns how many. */
        int giveUpTo(int n) {
            int given = Math.min(n, clock - 1);
            clock -= given;
            return given;
        }

        int giveTo(Side other, int n) {
            int given = giveUpTo(n);
            other.clock += given;
            return given;
        }
    }

    private static final class Game {
        static final int UNUSED = -1;
        static final int RUNNING = 0;
        static final int WON_BY_WHITE = 1;
        static final int WON_BY_BLACK = 2;
        static final int STOPPED = 3;

        final Side white = new Side();
        final Side black = new Side();
        int number;
        int increment;
        int delay;
        int stake;
        int turn;
        int moves;
        int turnSeconds;
        int status = UNUSED;

        void sitDown(int first, int second, int seconds) {
            white.sit(first, seconds);
            black.sit(second, seconds);
        }

        void start(int itsNumber, int itsIncrement, int itsDelay, int itsStake) {
            number = itsNumber;
            increment = itsIncrement;
            delay = itsDelay;
            stake = itsStake;
            turn = 0;
            moves = 0;
            turnSeconds = 0;
            status = RUNNING;
        }

        void copy(Game from) {
            white.copy(from.white);
            black.copy(from.black);
            number = from.number;
            increment = from.increment;
            delay = from.delay;
            stake = from.stake;
            turn = from.turn;
            moves = from.moves;
            turnSeconds = from.turnSeconds;
            status = from.status;
        }

        boolean runs() {
            return status == RUNNING;
        }

        boolean isPlayedBy(int player) {
            return white.player == player || black.player == player;
        }

        Side sideAt(int side) {
            return side == 0 ? white : black;
        }

        Side mover() {
            return sideAt(turn);
        }

        void move() {
            mover().clock += increment;
            turn = 1 - turn;
            turnSeconds = 0;
            moves++;
        }

        /** Lets one second go by; returns whether the flag falls. */
        boolean tick() {
            turnSeconds++;
            if (turnSeconds > delay) {
                mover().clock--;
            }
            return mover().clock == 0;
        }

        /** How many seconds the clock whose turn it is lacks, to keep 1 after so many. */
        int missingFor(int seconds) {
            int delayLeft = Math.max(0, delay - turnSeconds);
            int used = Math.max(0, seconds - delayLeft);
            return Math.max(0, used + 1 - mover().clock);
        }
    }

    /** All that the bank knows at one time, and what a second does to it. */
    private static final class State {
        final Player[] players = new Player[MAX_PLAYERS];
        final Loan[] loans = new Loan[MAX_LOANS];
        final Game[] games = new Game[MAX_GAMES];
        int playerCount;
        int loanCount;
        int gameCount;
        int time;
        int reserve = FIRST_RESERVE;
        int coins;
        int caught;

        // What the seconds brought that went by at last.
        int fallen;
        int goneBad;
        int firstFallen = NONE;
        int firstFallTime = NONE;

        State() {
            for (int p = 0; p < players.length; p++) {
                players[p] = new Player();
            }
            for (int l = 0; l < loans.length; l++) {
                loans[l] = new Loan();
            }
            for (int g = 0; g < games.length; g++) {
                games[g] = new Game();
            }
        }

        void copy(State from) {
            time = from.time;
            reserve = from.reserve;
            coins = from.coins;
            caught = from.caught;
            playerCount = from.playerCount;
            loanCount = from.loanCount;
            gameCount = from.gameCount;
            for (int p = 0; p < playerCount; p++) {
                playerAt(p).copy(from.playerAt(p));
            }
            for (int l = 0; l < loanCount; l++) {
                loanAt(l).copy(from.loanAt(l));
            }
            for (int g = 0; g < gameCount; g++) {
                gameAt(g).copy(from.gameAt(g));
            }
        }

        Player playerAt(int number) {
            if (number < 0 || number >= playerCount || number >= players.length) {
                throw new IndexOutOfBoundsException("no such player");
            }
            return players[number];
        }

        Loan loanAt(int number) {
            if (number < 0 || number >= loanCount || number >= loans.length) {
                throw new IndexOutOfBoundsException("no such loan");
            }
            return loans[number];
        }

        Game gameAt(int number) {
            if (number < 0 || number >= gameCount || number >= games.length) {
                throw new IndexOutOfBoundsException("no such game");
            }
            return games[number];
        }

        /** Each second is in the reserve or out: none of the rules moves the one without the other. */
        int secondsOut() {
            return FIRST_RESERVE - reserve;
        }

        int currentPrice() {
            return LOWEST_PRICE + Math.max(0, secondsOut()) / 1000;
        }

        void handOut(Player player, int n) {
            reserve -= n;
            player.pocket += n;
        }

        int gamesRunning() {
            int found = 0;
            for (Game game : games) {
                if (game.runs()) {
                    found++;
                }
            }
            return found;
        }

        int gamesRunningOf(int player) {
            int found = 0;
            for (Game game : games) {
                if (game.runs() && game.isPlayedBy(player)) {
                    found++;
                }
            }
            return found;
        }

        int openLoans() {
            int found = 0;
            for (Loan loan : loans) {
                if (loan.status == Loan.OPEN) {
                    found++;
                }
            }
            return found;
        }

        int loansOf(int player, int status) {
            int found = 0;
            for (Loan loan : loans) {
                if (loan.status == status && loan.player == player) {
                    found++;
                }
            }
            return found;
        }

        int owedBy(int player) {
            int owed = 0;
            for (Loan loan : loans) {
                if (isOwed(loan) && loan.player == player) {
                    owed += loan.owed;
                }
            }
            return owed;
        }

        boolean isOwed(Loan loan) {
            return loan.status == Loan.OPEN || loan.status == Loan.BAD;
        }

        int playersAheadOf(int number) {
            Player one = playerAt(number);
            int found = 0;
            for (int p = 0; p < playerCount; p++) {
                Player other = playerAt(p);
                boolean comesEarlier = p < number && !one.leads(other);
                if (other.leads(one) || comesEarlier) {
                    found++;
                }
            }
            return found;
        }

        void stop(Game game) {
            playerAt(game.white.player).coins += game.stake;
            playerAt(game.black.player).coins += game.stake;
            game.status = Game.STOPPED;
        }

        /** Ends a game that a side has won; returns what its player gets. */
        int awardTo(Game game, int winningSide) {
            Player winner = playerAt(game.sideAt(winningSide).player);
            Player loser = playerAt(game.sideAt(1 - winningSide).player);
            int stakes = 2 * game.stake;
            int kept = stakes / 10;
            winner.coins += stakes - kept;
            coins += kept;
            winner.won++;
            loser.lost++;
            game.status = winningSide == 0 ? Game.WON_BY_WHITE : Game.WON_BY_BLACK;
            return stakes - kept;
        }

        void letGoBy(int seconds) {
            forgetWhatPassed();
            for (int s = 0; s < seconds; s++) {
                time++;
                runClocks();
                if (time % INTEREST_EACH == 0) {
                    addInterest();
                }
                collectDueLoans();
                if (time % ARBITER_EACH == 0) {
                    lookForThieves();
                }
            }
        }

        void forgetWhatPassed() {
            fallen = 0;
            goneBad = 0;
            firstFallen = NONE;
            firstFallTime = NONE;
        }

        void runClocks() {
            for (Game game : games) {
                if (game.runs() && game.tick()) {
                    noteFall(game);
                    awardTo(game, 1 - game.turn);
                }
            }
        }

        void noteFall(Game game) {
            if (fallen == 0) {
                firstFallen = game.number;
                firstFallTime = time;
            }
            fallen++;
        }

        void addInterest() {
            for (Loan loan : loans) {
                if (loan.status == Loan.OPEN) {
                    loan.addInterest();
                }
            }
        }

        void collectDueLoans() {
            for (Loan loan : loans) {
                if (loan.status == Loan.OPEN && loan.due == time) {
                    takeFromPocket(loan, loan.owed);
                    takeFromClocks(loan);
                    judge(loan);
                }
            }
        }

        void judge(Loan loan) {
            if (loan.owed == 0) {
                loan.status = Loan.CLOSED;
            } else {
                loan.status = Loan.BAD;
                goneBad++;
            }
        }

        int takeFromPocket(Loan loan, int most) {
            Player debtor = playerAt(loan.player);
            int taken = Math.min(Math.min(most, loan.owed), debtor.pocket);
            debtor.pocket -= taken;
            bringBack(loan, taken);
            return taken;
        }

        void takeFromClocks(Loan loan) {
            for (Game game : games) {
                if (game.runs()) {
                    takeFromSide(loan, game.white);
                    takeFromSide(loan, game.black);
                }
            }
        }

        void takeFromSide(Loan loan, Side side) {
            if (side.player == loan.player) {
                bringBack(loan, side.giveUpTo(loan.owed));
            }
        }

        void bringBack(Loan loan, int n) {
            loan.owed -= n;
            reserve += n;
        }

        void lookForThieves() {
            for (Game game : games) {
                if (game.runs()) {
                    inspect(game.white, game.black);
                    inspect(game.black, game.white);
                }
            }
        }

        void inspect(Side side, Side other) {
            if (side.stolen < CAUGHT_FROM) {
                side.stolen /= 2;
                return;
            }
            side.giveTo(other, 2 * side.stolen);
            side.stolen = 0;
            playerAt(side.player).caught++;
            caught++;
        }
    }
}
