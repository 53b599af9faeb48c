import java.util.NoSuchElementException;

/** An olympiad of games of the mind: events, games, tables, ratings, titles and prizes. */
public final class MindFest {
    private static final int BITS = 32;
    private static final int PLAYERS = 12;
    private static final int EVENTS = 4;
    private static final int GAMES = 100;
    private static final int SEATS = 10;
    private static final int ROUNDS = 7;
    private static final int PRIZES = 6;
    private static final int LAST_DAY = 9999;
    private static final int LEAST_RATING = 100;
    private static final int MOST_TOLD = 60;
    private static final int PLACES = 9;
    private static final int ALL_PLACES = 511;
    private static final int POSITIONS = 19683;
    private static final char GOES_ON = '*';
    private static final int NOBODY = -1;
    private static final int NOT_YET = -2;
    private static final int NEVER = -1;

    // Each row of three of the board 't', its places as bits.
    private static final int[] ROWS = {7, 56, 448, 73, 146, 292, 273, 84};

    // What each place of the board 't' counts in the key of a position, which is a number of nine digits to base 3.
    private static final int[] UNITS = {1, 3, 9, 27, 81, 243, 729, 2187, 6561};

    private final Roll roll = new Roll();
    private final Table table = new Table();
    private final Pairing pairing = new Pairing();
    private final Ratings ratings = new Ratings();
    private final Ratings anew = new Ratings();
    private final int[] knownValues = new int[POSITIONS];
    private final int[] marks = new int[PLAYERS];
    private int today;

    public MindFest() {
    }

    // ---- players and events

    public int player(int rating, int land) throws IllegalArgumentException, IllegalStateException {
        if (!isWithin(rating, LEAST_RATING, 3000) || !isWithin(land, 0, 9)) {
            throw new IllegalArgumentException("rating or land out of range");
        }
        if (roll.playerCount >= PLAYERS) {
            throw new IllegalStateException("there are 12 players");
        }
        int number = roll.addPlayer(new Player(rating, land, today));
        ratings.enter(number, rating);
        return number;
    }

    public int event(char game, int rounds, int players) throws IllegalArgumentException, IllegalStateException {
        if (game != 't' && game != 'n' || !isWithin(rounds, 1, ROUNDS)) {
            throw new IllegalArgumentException("no such game, or rounds out of range");
        }
        if (players >>> roll.playerCount != 0 || !isWithin(Integer.bitCount(players), 2, SEATS)) {
            throw new IllegalArgumentException("no such players, or not 2 to 10 of them");
        }
        if (roll.contestCount >= EVENTS) {
            throw new IllegalStateException("there are 4 events");
        }
        Contest contest = new Contest(roll.contestCount, game, rounds);
        for (int p = 0; p < roll.playerCount; p++) {
            if (hasBit(players, p)) {
                contest.enter(p, at(ratings.now, p));
            }
        }
        return roll.addContest(contest);
    }

    public char clock(int event, char kind, int base, int extra, int periods)
            throws IndexOutOfBoundsException, IllegalArgumentException, UnsupportedOperationException {
        Contest contest = knownEvent(event);
        if (kind != 'd' && kind != 'i' && kind != 'b') {
            throw new IllegalArgumentException("no such kind of clock");
        }
        if (!isWithin(base, 10, 600) || !isWithin(extra, 1, 60) || kind == 'b' && !isWithin(periods, 1, 5)) {
            throw new IllegalArgumentException("a number of the clock is out of range");
        }
        if (contest.roundCount > 0) {
            throw new UnsupportedOperationException("the event has games");
        }
        char before = contest.clockKind;
        contest.setClock(kind, base, extra, periods);
        return before;
    }

    public int join(int event, int player)
            throws IndexOutOfBoundsException, UnsupportedOperationException, IllegalStateException {
        Contest contest = knownEvent(event);
        knownPlayer(player);
        if (contest.closed || contest.roundCount >= contest.roundLimit || contest.has(player)) {
            throw new UnsupportedOperationException("the event is closed or fully paired, or the player is in it");
        }
        if (contest.size() >= SEATS) {
            throw new IllegalStateException("the event has 10 players");
        }
        contest.enter(player, at(ratings.now, player));
        return contest.size();
    }

    public int withdraw(int event, int player) throws IndexOutOfBoundsException, UnsupportedOperationException {
        Contest contest = knownEvent(event);
        knownPlayer(player);
        if (contest.closed || !contest.has(player) || contest.isGone(player)) {
            throw new UnsupportedOperationException("the event is closed, or the player is not in it any more");
        }
        contest.leave(player);
        return contest.size() - Integer.bitCount(contest.gone);
    }

    public int close(int event) throws IndexOutOfBoundsException, UnsupportedOperationException {
        Contest contest = knownEvent(event);
        if (contest.closed || roll.countGoing(contest.number) > 0) {
            throw new UnsupportedOperationException("the event is closed, or a game of it goes on");
        }
        contest.closed = true;
        table.fill(roll, contest);
        return at(table.order, 0);
    }

    // ---- rounds and games

    public int pair(int event)
            throws IndexOutOfBoundsException, UnsupportedOperationException, IllegalStateException {
        Contest contest = knownEvent(event);
        if (!hasWayToPair(contest)) {
            throw new UnsupportedOperationException("no round can be paired");
        }
        if (!hasRoomForRound()) {
            throw new IllegalStateException("there would be more than 100 games");
        }
        return openRound(contest);
    }

    public int rounds(int event) throws IndexOutOfBoundsException {
        Contest contest = knownEvent(event);
        return contest.roundCount;
    }

    public int playerOf(int game, boolean isFirst) throws IndexOutOfBoundsException {
        Bout bout = knownGame(game);
        return isFirst ? bout.first : bout.second;
    }

    public int bye(int event, int round) throws IndexOutOfBoundsException, NoSuchElementException {
        Contest contest = knownEvent(event);
        if (!isWithin(round, 0, contest.roundCount - 1) || at(contest.byes, round) == NOBODY) {
            throw new NoSuchElementException("no such round, or nobody had the bye");
        }
        return at(contest.byes, round);
    }

    public char move(int game, int move, int seconds)
            throws IndexOutOfBoundsException, UnsupportedOperationException, IllegalArgumentException {
        Bout bout = knownGame(game);
        if (bout.isOver()) {
            throw new UnsupportedOperationException("the game is over");
        }
        if (!isWithin(seconds, 0, 999) || !bout.board.allows(move)) {
            throw new IllegalArgumentException("seconds out of range, or the move is not legal");
        }
        bout.play(move, seconds, today);
        return bout.outcome;
    }

    public boolean isLegal(int game, int move) throws IndexOutOfBoundsException {
        Bout bout = knownGame(game);
        return !bout.isOver() && bout.board.allows(move);
    }

    public int time(int game, boolean isFirst) throws IndexOutOfBoundsException {
        Bout bout = knownGame(game);
        return isFirst ? bout.firstTimer.left : bout.secondTimer.left;
    }

    public int periods(int game, boolean isFirst) throws IndexOutOfBoundsException {
        Bout bout = knownGame(game);
        return isFirst ? bout.firstTimer.spans : bout.secondTimer.spans;
    }

    public int end(int game, char result)
            throws IndexOutOfBoundsException, IllegalArgumentException, UnsupportedOperationException {
        Bout bout = knownGame(game);
        if (!bout.canEndWith(result)) {
            throw new IllegalArgumentException("no such result");
        }
        if (bout.isOver()) {
            throw new UnsupportedOperationException("the game is over");
        }
        bout.finish(result, today);
        return roll.countGoing(bout.event);
    }

    public char adjudge(int game) throws IndexOutOfBoundsException, UnsupportedOperationException {
        Bout bout = knownGame(game);
        if (bout.isOver()) {
            throw new UnsupportedOperationException("the game is over");
        }
        bout.finish(bout.board.foresee(knownValues), today);
        return bout.outcome;
    }

    public char best(int game) throws IndexOutOfBoundsException {
        Bout bout = knownGame(game);
        return bout.isOver() ? bout.outcome : bout.board.foresee(knownValues);
    }

    public char correct(int game, char result)
            throws IndexOutOfBoundsException, IllegalArgumentException, UnsupportedOperationException {
        Bout bout = knownGame(game);
        if (!bout.canEndWith(result)) {
            throw new IllegalArgumentException("no such result");
        }
        Contest contest = roll.contestAt(bout.event);
        if (!bout.isOver() || contest == null || contest.closed) {
            throw new UnsupportedOperationException("the game goes on, or its event is closed");
        }
        char before = bout.outcome;
        bout.outcome = result;
        ratings.reckon(roll, today);
        return before;
    }

    public char result(int game) throws IndexOutOfBoundsException {
        Bout bout = knownGame(game);
        return bout.outcome;
    }

    // ---- tables

    public int points(int event, int player) throws IndexOutOfBoundsException, NoSuchElementException {
        Contest contest = knownEvent(event);
        knownPlayer(player);
        tabulate(contest, player);
        return at(table.points, player);
    }

    public int tieBreak(int event, int player, int which)
            throws IndexOutOfBoundsException, IllegalArgumentException, NoSuchElementException {
        Contest contest = knownEvent(event);
        knownPlayer(player);
        if (!isWithin(which, 1, 2)) {
            throw new IllegalArgumentException("no such tie-break");
        }
        tabulate(contest, player);
        return at(which == 1 ? table.ofMet : table.ofBeaten, player);
    }

    public int rank(int event, int player) throws IndexOutOfBoundsException, NoSuchElementException {
        Contest contest = knownEvent(event);
        knownPlayer(player);
        tabulate(contest, player);
        return at(table.places, player);
    }

    public int ranked(int event, int rank) throws IndexOutOfBoundsException, NoSuchElementException {
        Contest contest = knownEvent(event);
        if (!isWithin(rank, 1, contest.size())) {
            throw new NoSuchElementException("no such rank");
        }
        table.fill(roll, contest);
        return at(table.order, rank - 1);
    }

    public int weight(int event) throws IndexOutOfBoundsException, UnsupportedOperationException {
        Contest contest = knownEvent(event);
        if (!hasWayToPair(contest) || !hasRoomForRound()) {
            throw new UnsupportedOperationException("no round can be paired");
        }
        return pairing.leastWeight;
    }

    // ---- ratings, titles, agreements

    public int day() throws IllegalStateException {
        if (today >= LAST_DAY) {
            throw new IllegalStateException("it is the last day");
        }
        ratings.rateDay(roll, today);
        today++;
        return today;
    }

    public int rating(int player) throws IndexOutOfBoundsException {
        knownPlayer(player);
        return at(ratings.now, player);
    }

    public int ratingOn(int player, int day) throws IndexOutOfBoundsException, NoSuchElementException {
        Player one = knownPlayer(player);
        if (!isWithin(day, one.addedOn, today)) {
            throw new NoSuchElementException("no such day, or the player was added on a later one");
        }
        return ratings.atDawn(player, day, one.firstRating);
    }

    public int rated(int player) throws IndexOutOfBoundsException {
        knownPlayer(player);
        return at(ratings.played, player);
    }

    public int norms(int player) throws IndexOutOfBoundsException {
        knownPlayer(player);
        return countNorms(player);
    }

    public boolean isTitled(int player) throws IndexOutOfBoundsException {
        Player one = knownPlayer(player);
        return countNorms(player) >= 2 && (one.firstRating >= 2000 || ratings.hasReached(player, 2000));
    }

    public int agree(int player, int moves, int agreements)
            throws IndexOutOfBoundsException, IllegalArgumentException, IllegalStateException {
        Player one = knownPlayer(player);
        if (!isWithin(moves, 1, MOST_TOLD) || !isWithin(agreements, 0, moves)) {
            throw new IllegalArgumentException("moves or agreements out of range");
        }
        if (one.toldMoves + moves > MOST_TOLD) {
            throw new IllegalStateException("there would be more than 60 moves");
        }
        one.toldMoves += moves;
        one.agreements += agreements;
        return one.toldMoves;
    }

    public double odds(int player) throws IndexOutOfBoundsException, ArithmeticException {
        Player one = knownPlayer(player);
        if (one.toldMoves == 0) {
            throw new ArithmeticException("no moves were told");
        }
        return one.chance();
    }

    public boolean suspect(int player, int by)
            throws IndexOutOfBoundsException, IllegalArgumentException, UnsupportedOperationException {
        Player one = knownPlayer(player);
        knownPlayer(by);
        if (player == by) {
            throw new IllegalArgumentException("nobody tells eyes on oneself");
        }
        if (one.banned || hasBit(one.eyes, by)) {
            throw new UnsupportedOperationException("this one was told, or the player is banned");
        }
        one.eyes |= 1 << by;
        one.banned = one.deservesBan();
        return one.banned;
    }

    public int lift(int player) throws IndexOutOfBoundsException, UnsupportedOperationException {
        Player one = knownPlayer(player);
        if (!one.banned) {
            throw new UnsupportedOperationException("the player is not banned");
        }
        int eyes = Integer.bitCount(one.eyes);
        one.forget();
        return eyes;
    }

    public boolean isBanned(int player) throws IndexOutOfBoundsException {
        Player one = knownPlayer(player);
        return one.banned;
    }

    // ---- ranks over all, prizes, figures

    public int mark(int player) throws IndexOutOfBoundsException {
        knownPlayer(player);
        fillMarks();
        return at(marks, player);
    }

    public int overall(int player) throws IndexOutOfBoundsException {
        knownPlayer(player);
        fillMarks();
        int better = 0;
        for (int p = 0; p < roll.playerCount; p++) {
            if (at(marks, p) > at(marks, player)) {
                better++;
            }
        }
        return better + 1;
    }

    public int prize(int event, int prize) throws IndexOutOfBoundsException, IllegalArgumentException,
            UnsupportedOperationException, IllegalStateException {
        Contest contest = knownEvent(event);
        if (!isWithin(prize, 0, 100000)) {
            throw new IllegalArgumentException("the prize is out of range");
        }
        if (!contest.closed) {
            throw new UnsupportedOperationException("the event is not closed");
        }
        if (contest.prizeCount >= PRIZES || contest.prizeCount >= contest.size()) {
            throw new IllegalStateException("there are 6 prizes, or as many as players");
        }
        put(contest.prizes, contest.prizeCount, prize);
        contest.prizeCount++;
        return contest.prizeCount;
    }

    public int share(int event, int player) throws IndexOutOfBoundsException, NoSuchElementException {
        Contest contest = knownEvent(event);
        knownPlayer(player);
        tabulate(contest, player);
        table.splitPrizes(contest);
        return at(table.shares, player);
    }

    public float overShare() throws ArithmeticException {
        if (roll.boutCount == 0) {
            throw new ArithmeticException("there are no games");
        }
        int over = 0;
        for (int g = 0; g < roll.boutCount; g++) {
            Bout bout = roll.boutAt(g);
            if (bout != null && bout.isOver()) {
                over++;
            }
        }
        return (float) over / (float) roll.boutCount;
    }

    public long checksum() {
        long sum = 7;
        for (int p = 0; p < roll.playerCount; p++) {
            sum = 31 * sum + at(ratings.now, p);
        }
        for (int g = 0; g < roll.boutCount; g++) {
            Bout bout = roll.boutAt(g);
            if (bout != null) {
                sum = 31 * sum + bout.outcome;
            }
        }
        for (int e = 0; e < roll.contestCount; e++) {
            sum = addPoints(sum, roll.contestAt(e));
        }
        return sum;
    }

    public boolean isSound() {
        for (int e = 0; e < roll.contestCount; e++) {
            Contest contest = roll.contestAt(e);
            if (contest != null && !isSoundContest(contest)) {
                return false;
            }
        }
        anew.reckon(roll, today);
        return anew.isLike(ratings);
    }

    // ---- what several calls share

    private Player knownPlayer(int number) {
        Player player = roll.playerAt(number);
        if (player == null) {
            throw new IndexOutOfBoundsException("no such player");
        }
        return player;
    }

    private Contest knownEvent(int number) {
        Contest contest = roll.contestAt(number);
        if (contest == null) {
            throw new IndexOutOfBoundsException("no such event");
        }
        return contest;
    }

    private Bout knownGame(int number) {
        Bout bout = roll.boutAt(number);
        if (bout == null) {
            throw new IndexOutOfBoundsException("no such game");
        }
        return bout;
    }

    private void tabulate(Contest contest, int player) {
        if (!contest.has(player)) {
            throw new NoSuchElementException("the player is not in the event");
        }
        table.fill(roll, contest);
    }

    private boolean hasWayToPair(Contest contest) {
        if (contest.closed || contest.roundCount >= contest.roundLimit || roll.countGoing(contest.number) > 0) {
            return false;
        }
        table.fill(roll, contest);
        return pairing.find(roll, contest, table);
    }

    private boolean hasRoomForRound() {
        return roll.boutCount + pairing.count / 2 <= GAMES;
    }

    private int openRound(Contest contest) {
        int firstGame = roll.boutCount;
        for (int i = 0; i < pairing.count; i++) {
            int partner = at(pairing.chosen, i);
            if (partner == NOBODY) {
                put(contest.byes, contest.roundCount, at(pairing.seats, i));
            } else if (partner > i) {
                openGame(contest, at(pairing.seats, i), at(pairing.seats, partner));
            }
        }
        contest.roundCount++;
        return firstGame;
    }

    private void openGame(Contest contest, int low, int high) {
        boolean isLowFirst = at(pairing.balances, low) <= at(pairing.balances, high);
        roll.addBout(new Bout(contest, isLowFirst ? low : high, isLowFirst ? high : low));
    }

    private int countNorms(int player) {
        int count = 0;
        for (int e = 0; e < roll.contestCount; e++) {
            Contest contest = roll.contestAt(e);
            if (contest != null && contest.closed && isNorm(contest, player)) {
                count++;
            }
        }
        return count;
    }

    private boolean isNorm(Contest contest, int player) {
        int games = 0;
        int abroad = 0;
        int ratingSum = 0;
        int score = 0;
        for (int g = 0; g < roll.boutCount; g++) {
            Bout bout = roll.boutAt(g);
            if (bout != null && bout.event == contest.number && bout.isRated() && bout.involves(player)) {
                int other = bout.otherThan(player);
                games++;
                abroad += roll.landOf(other) != roll.landOf(player) ? 1 : 0;
                ratingSum += at(contest.entries, other);
                score += bout.pointsFor(player);
            }
        }
        return games >= 4 && abroad >= 2 && ratingSum >= 1800 * games && 100 * score >= 65 * 2 * games;
    }

    private void fillMarks() {
        wipe(marks);
        for (int e = 0; e < roll.contestCount; e++) {
            Contest contest = roll.contestAt(e);
            if (contest != null && contest.closed) {
                addMarks(contest);
            }
        }
    }

    private void addMarks(Contest contest) {
        table.fill(roll, contest);
        int others = table.size - 1;
        if (others < 1) {
            return;
        }
        for (int i = 0; i < table.size; i++) {
            int player = at(table.order, i);
            if (!contest.isGone(player)) {
                add(marks, player, 1000 * (others - i) / others);
            }
        }
    }

    private long addPoints(long sum, Contest contest) {
        if (contest == null) {
            return sum;
        }
        table.fill(roll, contest);
        long more = sum;
        for (int p = 0; p < roll.playerCount; p++) {
            if (contest.has(p)) {
                more = 31 * more + at(table.points, p);
            }
        }
        return more;
    }

    private boolean isSoundContest(Contest contest) {
        table.fill(roll, contest);
        table.splitPrizes(contest);
        return !pairing.hasMetTwice(roll, contest) && !contest.hasTwoByes() && table.hasUnlikePlaces(contest)
                && table.sharesSumTo(contest);
    }

    // ---- rows, bits and ranges, looked at before they are used

    private static int at(int[] row, int index) {
        return row != null && index >= 0 && index < row.length ? row[index] : 0;
    }

    private static void put(int[] row, int index, int value) {
        if (row != null && index >= 0 && index < row.length) {
            row[index] = value;
        }
    }

    private static void add(int[] row, int index, int value) {
        put(row, index, at(row, index) + value);
    }

    private static void wipe(int[] row) {
        if (row != null) {
            for (int i = 0; i < row.length; i++) {
                row[i] = 0;
            }
        }
    }

    private static boolean hasBit(int bits, int index) {
        return index >= 0 && index < BITS && (bits >> index & 1) == 1;
    }

    private static boolean isWithin(int number, int low, int high) {
        return number >= low && number <= high;
    }

    /** All players, events and games by their numbers; null where there is none. */
    private static final class Roll {
        final Player[] players = new Player[PLAYERS];
        final Contest[] contests = new Contest[EVENTS];
        final Bout[] bouts = new Bout[GAMES];
        int playerCount;
        int contestCount;
        int boutCount;

        Player playerAt(int number) {
            return number >= 0 && number < players.length ? players[number] : null;
        }

        Contest contestAt(int number) {
            return number >= 0 && number < contests.length ? contests[number] : null;
        }

        Bout boutAt(int number) {
            return number >= 0 && number < bouts.length ? bouts[number] : null;
        }

        int addPlayer(Player player) {
            int number = playerCount;
            if (number >= 0 && number < players.length) {
                players[number] = player;
                playerCount++;
            }
            return number;
        }

        int addContest(Contest contest) {
            int number = contestCount;
            if (number >= 0 && number < contests.length) {
                contests[number] = contest;
                contestCount++;
            }
            return number;
        }

        void addBout(Bout bout) {
            if (boutCount >= 0 && boutCount < bouts.length) {
                bouts[boutCount] = bout;
                boutCount++;
            }
        }

        int landOf(int number) {
            Player player = playerAt(number);
            return player == null ? NOBODY : player.land;
        }

        boolean isBarred(int number) {
            Player player = playerAt(number);
            return player == null || player.banned;
        }

        int countGoing(int event) {
            int count = 0;
            for (int g = 0; g < boutCount; g++) {
                Bout bout = boutAt(g);
                if (bout != null && bout.event == event && !bout.isOver()) {
                    count++;
                }
            }
            return count;
        }
    }

    /** One player, and what was told of this one. */
    private static final class Player {
        final int firstRating;
        final int land;
        final int addedOn;
        int toldMoves;
        int agreements;
        int eyes;
        boolean banned;

        Player(int firstRating, int land, int addedOn) {
            this.firstRating = firstRating;
            this.land = land;
            this.addedOn = addedOn;
        }

        // Whole numbers as long as they go: 60 moves have 2 to the 60th ways, so only the last step rounds.
        double chance() {
            long ways = 1;
            long enough = agreements == 0 ? 1 : 0;
            for (int k = 1; k <= toldMoves; k++) {
                ways = ways * (toldMoves - k + 1) / k;
                if (k >= agreements) {
                    enough += ways;
                }
            }
            return (double) enough / (double) (1L << toldMoves);
        }

        boolean deservesBan() {
            return Integer.bitCount(eyes) >= 2 && toldMoves > 0 && chance() < 0.01;
        }

        void forget() {
            banned = false;
            eyes = 0;
            toldMoves = 0;
            agreements = 0;
        }
    }

    /** One event: who is in it, its clock, its byes and its prizes. */
    private static final class Contest {
        final int number;
        final char game;
        final int roundLimit;
        final int[] entries = new int[PLAYERS];
        final int[] byes = new int[ROUNDS];
        final int[] prizes = new int[PRIZES];
        int roundCount;
        int prizeCount;
        int members;
        int gone;
        boolean closed;
        char clockKind = 'i';
        int clockBase = 300;
        int clockExtra = 10;
        int clockPeriods = 1;

        Contest(int number, char game, int roundLimit) {
            this.number = number;
            this.game = game;
            this.roundLimit = roundLimit;
            for (int r = 0; r < byes.length; r++) {
                byes[r] = NOBODY;
            }
        }

        void setClock(char kind, int base, int extra, int periods) {
            clockKind = kind;
            clockBase = base;
            clockExtra = extra;
            clockPeriods = periods;
        }

        void enter(int player, int rating) {
            if (isWithin(player, 0, PLAYERS - 1)) {
                members |= 1 << player;
                put(entries, player, rating);
            }
        }

        void leave(int player) {
            if (isWithin(player, 0, PLAYERS - 1)) {
                gone |= 1 << player;
            }
        }

        boolean has(int player) {
            return hasBit(members, player);
        }

        boolean isGone(int player) {
            return hasBit(gone, player);
        }

        int size() {
            return Integer.bitCount(members);
        }

        boolean hadBye(int player) {
            for (int r = 0; r < roundCount; r++) {
                if (at(byes, r) == player) {
                    return true;
                }
            }
            return false;
        }

        boolean hasTwoByes() {
            int had = 0;
            for (int r = 0; r < roundCount; r++) {
                int player = at(byes, r);
                if (hasBit(had, player)) {
                    return true;
                }
                had |= isWithin(player, 0, PLAYERS - 1) ? 1 << player : 0;
            }
            return false;
        }
    }

    /** One game: who plays it, how it stands and what came of it. */
    private static final class Bout {
        final int event;
        final int first;
        final int second;
        final Board board;
        final Timer firstTimer;
        final Timer secondTimer;
        char outcome = GOES_ON;
        int overOn;

        Bout(Contest contest, int first, int second) {
            this.event = contest.number;
            this.first = first;
            this.second = second;
            this.board = new Board(contest.game);
            this.firstTimer = new Timer(contest);
            this.secondTimer = new Timer(contest);
        }

        boolean isOver() {
            return outcome != GOES_ON;
        }

        boolean isForfeit() {
            return outcome == '+' || outcome == '-';
        }

        boolean isRated() {
            return isOver() && !isForfeit();
        }

        boolean involves(int player) {
            return first == player || second == player;
        }

        int otherThan(int player) {
            return first == player ? second : first;
        }

        boolean canEndWith(char result) {
            return result == '1' || result == '0' || result == '+' || result == '-'
                    || result == '=' && board.game != 'n';
        }

        int pointsFor(int player) {
            if (outcome == '=') {
                return 1;
            }
            boolean isWon = player == first ? outcome == '1' || outcome == '+' : outcome == '0' || outcome == '-';
            return isWon ? 2 : 0;
        }

        void finish(char result, int day) {
            outcome = result;
            overOn = day;
        }

        void play(int move, int seconds, int day) {
            Timer timer = board.turn == 0 ? firstTimer : secondTimer;
            if (!timer.spend(seconds)) {
                finish(board.afterFlag(), day);
                return;
            }
            board.place(move);
            char verdict = board.verdict();
            if (verdict != GOES_ON) {
                finish(verdict, day);
            }
        }
    }

    /** The time of one player in one game. */
    private static final class Timer {
        final char kind;
        final int extra;
        int left;
        int spans;

        Timer(Contest contest) {
            kind = contest.clockKind;
            extra = contest.clockExtra;
            left = contest.clockBase;
            spans = contest.clockKind == 'b' ? contest.clockPeriods : 0;
        }

        /** Takes the seconds of a move; answers false, and takes nothing, if the flag falls by it. */
        boolean spend(int seconds) {
            if (kind == 'b' && seconds > left) {
                return spendSpans(seconds - left);
            }
            int taken = kind == 'd' ? Math.max(0, seconds - extra) : seconds;
            if (taken > left) {
                return false;
            }
            left -= taken;
            left += kind == 'i' ? extra : 0;
            return true;
        }

        boolean spendSpans(int seconds) {
            int lost = extra > 0 ? seconds / extra : 0;
            if (lost >= spans) {
                return false;
            }
            left = 0;
            spans -= lost;
            return true;
        }
    }

    /** How a game stands, 't' by the marks of both as bits, 'n' by heaps; turn is 0 for the one who plays first. */
    private static final class Board {
        final char game;
        final int[] marked = new int[2];
        final int[] heaps = {3, 4, 5};
        int turn;

        Board(char game) {
            this.game = game;
        }

        boolean allows(int move) {
            if (game == 't') {
                return isWithin(move, 0, PLACES - 1) && !hasBit(at(marked, 0) | at(marked, 1), move);
            }
            int heap = move / 10;
            int taken = move % 10;
            return isWithin(heap, 0, 2) && isWithin(taken, 1, at(heaps, heap));
        }

        void place(int move) {
            if (game == 't') {
                put(marked, turn, at(marked, turn) | 1 << move);
            } else {
                add(heaps, move / 10, -(move % 10));
            }
            turn = 1 - turn;
        }

        char verdict() {
            int mover = 1 - turn;
            if (game == 'n') {
                return at(heaps, 0) + at(heaps, 1) + at(heaps, 2) == 0 ? winOf(mover) : GOES_ON;
            }
            if (hasRow(at(marked, mover))) {
                return winOf(mover);
            }
            return (at(marked, 0) | at(marked, 1)) == ALL_PLACES ? '=' : GOES_ON;
        }

        char afterFlag() {
            boolean isDrawn = game == 't' && !hasFreeRow(at(marked, turn));
            return isDrawn ? '=' : winOf(1 - turn);
        }

        char foresee(int[] known) {
            if (game == 'n') {
                return nextTaker() ? winOf(turn) : winOf(1 - turn);
            }
            int key = keyOf(at(marked, 0), at(marked, 1));
            int value = searchValue(known, at(marked, turn), at(marked, 1 - turn), key, turn + 1, 0);
            return value == 0 ? '=' : winOf(value > 0 ? turn : 1 - turn);
        }

        // Of heaps it is known that the one to move wins unless the heaps' bits cancel out, so no search is needed.
        boolean nextTaker() {
            return (at(heaps, 0) ^ at(heaps, 1) ^ at(heaps, 2)) != 0;
        }

        static char winOf(int side) {
            return side == 0 ? '1' : '0';
        }

        static boolean hasRow(int marks) {
            for (int i = 0; i < ROWS.length; i++) {
                if ((marks & ROWS[i]) == ROWS[i]) {
                    return true;
                }
            }
            return false;
        }

        static boolean hasFreeRow(int marks) {
            for (int i = 0; i < ROWS.length; i++) {
                if ((marks & ROWS[i]) == 0) {
                    return true;
                }
            }
            return false;
        }

        static int keyOf(int first, int second) {
            int key = 0;
            for (int i = 0; i < UNITS.length; i++) {
                key += hasBit(first, i) ? UNITS[i] : hasBit(second, i) ? 2 * UNITS[i] : 0;
            }
            return key;
        }

        /**
         * What best play brings the one to move, who has the digit 1 or 2 in keys: 1 a win, 0 a draw, -1 a loss.
         * What was found is known by the key from then on, plus 2, and is looked up ahead of all else.
         */
        private static int searchValue(int[] known, int own, int other, int key, int digit, int depth) {
            if (at(known, key) > 0) {
                return at(known, key) - 2;
            }
            if (depth > PLACES) {
                return 0;
            }
            boolean isLost = hasRow(other);
            int value = !isLost && (own | other) == ALL_PLACES ? 0 : -1;
            for (int i = 0; i < UNITS.length && !isLost && value < 1; i++) {
                if (!hasBit(own | other, i)) {
                    int next = key + digit * UNITS[i];
                    value = Math.max(value, -searchValue(known, other, own | 1 << i, next, 3 - digit, depth + 1));
                }
            }
            put(known, key, value + 2);
            return value;
        }
    }

    /** The table of an event: points, tie-breaks, ranks and shares, filled anew for each look at it. */
    private static final class Table {
        final int[] points = new int[PLAYERS];
        final int[] ofMet = new int[PLAYERS];
        final int[] ofBeaten = new int[PLAYERS];
        final int[] order = new int[PLAYERS];
        final int[] places = new int[PLAYERS];
        final int[] shares = new int[PLAYERS];
        int size;

        void fill(Roll roll, Contest contest) {
            fillPoints(roll, contest);
            fillTies(roll, contest);
            fillOrder(contest);
        }

        void fillPoints(Roll roll, Contest contest) {
            wipe(points);
            for (int g = 0; g < roll.boutCount; g++) {
                Bout bout = roll.boutAt(g);
                if (bout != null && bout.event == contest.number) {
                    add(points, bout.first, bout.pointsFor(bout.first));
                    add(points, bout.second, bout.pointsFor(bout.second));
                }
            }
            for (int r = 0; r < contest.roundCount; r++) {
                add(points, at(contest.byes, r), 2);
            }
        }

        void fillTies(Roll roll, Contest contest) {
            wipe(ofMet);
            wipe(ofBeaten);
            for (int g = 0; g < roll.boutCount; g++) {
                Bout bout = roll.boutAt(g);
                if (bout != null && bout.event == contest.number && bout.isOver()) {
                    addTies(bout, bout.first);
                    addTies(bout, bout.second);
                }
            }
            for (int r = 0; r < contest.roundCount; r++) {
                int player = at(contest.byes, r);
                add(ofMet, player, at(points, player) / 2);
            }
        }

        void addTies(Bout bout, int player) {
            int theirs = at(points, bout.otherThan(player));
            if (bout.isForfeit()) {
                add(ofMet, player, at(points, player) / 2);
            } else {
                add(ofMet, player, theirs);
                add(ofBeaten, player, bout.pointsFor(player) * theirs);
            }
        }

        void fillOrder(Contest contest) {
            size = 0;
            for (int p = 0; p < PLAYERS; p++) {
                if (contest.has(p)) {
                    insert(contest, p);
                }
            }
            wipe(places);
            for (int i = 0; i < size; i++) {
                put(places, at(order, i), i + 1);
            }
        }

        void insert(Contest contest, int player) {
            int spot = size;
            for (int i = size - 1; i >= 0 && isBetter(contest, player, at(order, i)); i--) {
                put(order, i + 1, at(order, i));
                spot = i;
            }
            put(order, spot, player);
            size++;
        }

        boolean isBetter(Contest contest, int one, int other) {
            if (at(points, one) != at(points, other)) {
                return at(points, one) > at(points, other);
            }
            if (at(ofMet, one) != at(ofMet, other)) {
                return at(ofMet, one) > at(ofMet, other);
            }
            if (at(ofBeaten, one) != at(ofBeaten, other)) {
                return at(ofBeaten, one) > at(ofBeaten, other);
            }
            if (at(contest.entries, one) != at(contest.entries, other)) {
                return at(contest.entries, one) > at(contest.entries, other);
            }
            return one < other;
        }

        void splitPrizes(Contest contest) {
            wipe(shares);
            int from = 0;
            for (int i = 1; i <= size; i++) {
                if (i == size || at(points, at(order, i)) != at(points, at(order, from))) {
                    splitAmong(contest, from, i);
                    from = i;
                }
            }
        }

        /** Splits among the like in points, who stand in the order from one index to ahead of another. */
        void splitAmong(Contest contest, int from, int to) {
            int pool = 0;
            for (int i = from; i < to; i++) {
                int prize = at(contest.prizes, i);
                add(shares, at(order, i), prize / 2);
                pool += prize - prize / 2;
            }
            int heads = to - from;
            if (heads < 1) {
                return;
            }
            for (int i = from; i < to; i++) {
                add(shares, at(order, i), pool / heads + (i - from < pool % heads ? 1 : 0));
            }
        }

        boolean hasUnlikePlaces(Contest contest) {
            int taken = 0;
            for (int p = 0; p < PLAYERS; p++) {
                int place = at(places, p);
                if (contest.has(p) && (!isWithin(place, 1, size) || hasBit(taken, place))) {
                    return false;
                }
                taken |= contest.has(p) ? 1 << place : 0;
            }
            return true;
        }

        boolean sharesSumTo(Contest contest) {
            int rest = 0;
            for (int i = 0; i < PRIZES; i++) {
                rest += at(contest.prizes, i);
            }
            for (int p = 0; p < PLAYERS; p++) {
                rest -= at(shares, p);
            }
            return rest == 0;
        }
    }

    /** The search for the way of least weight to pair a round. Seats are those to be paired, by numbers. */
    private static final class Pairing {
        final int[] seats = new int[SEATS];
        final int[] balances = new int[PLAYERS];
        final int[] met = new int[PLAYERS];
        final int[] weights = new int[SEATS * SEATS];
        final int[] byeWeights = new int[SEATS];
        final int[] partners = new int[SEATS];
        final int[] chosen = new int[SEATS];
        int count;
        int leastWeight;
        boolean isByeLeft;

        boolean find(Roll roll, Contest contest, Table table) {
            leastWeight = NEVER;
            seat(roll, contest);
            if (count < 2) {
                return false;
            }
            lookBack(roll, contest);
            weigh(roll, contest, table);
            for (int i = 0; i < SEATS; i++) {
                put(partners, i, NOT_YET);
            }
            isByeLeft = count % 2 == 1;
            seek(this, 0, 0);
            return leastWeight != NEVER;
        }

        void seat(Roll roll, Contest contest) {
            count = 0;
            for (int p = 0; p < PLAYERS && count < SEATS; p++) {
                if (contest.has(p) && !contest.isGone(p) && !roll.isBarred(p)) {
                    put(seats, count, p);
                    count++;
                }
            }
        }

        void lookBack(Roll roll, Contest contest) {
            wipe(balances);
            wipe(met);
            for (int g = 0; g < roll.boutCount; g++) {
                Bout bout = roll.boutAt(g);
                if (bout != null && bout.event == contest.number) {
                    add(balances, bout.first, 1);
                    add(balances, bout.second, -1);
                    noteMeeting(bout);
                }
            }
        }

        void noteMeeting(Bout bout) {
            if (!bout.isForfeit()) {
                put(met, bout.first, at(met, bout.first) | 1 << bout.second);
                put(met, bout.second, at(met, bout.second) | 1 << bout.first);
            }
        }

        void weigh(Roll roll, Contest contest, Table table) {
            for (int i = 0; i < count; i++) {
                int one = at(seats, i);
                put(byeWeights, i, contest.hadBye(one) ? NEVER : 50 * at(table.points, one));
                for (int j = i + 1; j < count; j++) {
                    put(weights, i * SEATS + j, weightOf(roll, table, one, at(seats, j)));
                }
            }
        }

        int weightOf(Roll roll, Table table, int one, int other) {
            if (hasBit(at(met, one), other)) {
                return NEVER;
            }
            int apart = at(table.points, one) - at(table.points, other);
            boolean sameSide = Integer.compare(at(balances, one), 0) * Integer.compare(at(balances, other), 0) > 0;
            boolean sameLand = roll.landOf(one) == roll.landOf(other);
            return 100 * apart * apart + (sameSide ? 10 : 0) + (sameLand ? 1 : 0);
        }

        // Partners are tried from the lowest on, the bye last, and only a lesser weight replaces
        // what was found: so of several with the least weight the one that is due stays.
        private static void seek(Pairing pairing, int weight, int depth) {
            boolean isWorse = pairing.leastWeight != NEVER && weight >= pairing.leastWeight;
            if (isWorse || depth > SEATS) {
                return;
            }
            int low = pairing.lowestFree();
            if (low == NOBODY) {
                pairing.choose(weight);
                return;
            }
            for (int high = low + 1; high < pairing.count; high++) {
                int more = at(pairing.weights, low * SEATS + high);
                if (more != NEVER && at(pairing.partners, high) == NOT_YET) {
                    pairing.couple(low, high, high, low);
                    seek(pairing, weight + more, depth + 1);
                    pairing.couple(low, NOT_YET, high, NOT_YET);
                }
            }
            int more = at(pairing.byeWeights, low);
            if (pairing.isByeLeft && more != NEVER) {
                pairing.isByeLeft = false;
                put(pairing.partners, low, NOBODY);
                seek(pairing, weight + more, depth + 1);
                put(pairing.partners, low, NOT_YET);
                pairing.isByeLeft = true;
            }
        }

        int lowestFree() {
            for (int i = 0; i < count; i++) {
                if (at(partners, i) == NOT_YET) {
                    return i;
                }
            }
            return NOBODY;
        }

        void couple(int low, int partnerOfLow, int high, int partnerOfHigh) {
            put(partners, low, partnerOfLow);
            put(partners, high, partnerOfHigh);
        }

        void choose(int weight) {
            leastWeight = weight;
            for (int i = 0; i < count; i++) {
                put(chosen, i, at(partners, i));
            }
        }

        boolean hasMetTwice(Roll roll, Contest contest) {
            wipe(met);
            for (int g = 0; g < roll.boutCount; g++) {
                Bout bout = roll.boutAt(g);
                if (bout != null && bout.event == contest.number && !bout.isForfeit()) {
                    if (hasBit(at(met, bout.first), bout.second)) {
                        return true;
                    }
                    noteMeeting(bout);
                }
            }
            return false;
        }
    }

    /** Ratings by days. Only days with rated games are kept, each with all ratings as it ended. */
    private static final class Ratings {
        final int[] now = new int[PLAYERS];
        final int[] played = new int[PLAYERS];
        final int[] changes = new int[PLAYERS];
        final int[] fresh = new int[PLAYERS];
        final int[] days = new int[GAMES];
        final int[] ended = new int[GAMES * PLAYERS];
        int count;

        void enter(int player, int rating) {
            put(now, player, rating);
            for (int k = 0; k < count; k++) {
                put(ended, k * PLAYERS + player, rating);
            }
        }

        void reckon(Roll roll, int today) {
            count = 0;
            wipe(played);
            for (int p = 0; p < PLAYERS; p++) {
                Player player = roll.playerAt(p);
                put(now, p, player == null ? 0 : player.firstRating);
            }
            int day = nextDay(roll, -1);
            for (int k = 0; k < GAMES && day < today; k++) {
                rateDay(roll, day);
                day = nextDay(roll, day);
            }
        }

        int nextDay(Roll roll, int after) {
            int next = LAST_DAY + 1;
            for (int g = 0; g < roll.boutCount; g++) {
                Bout bout = roll.boutAt(g);
                if (bout != null && bout.isRated() && bout.overOn > after) {
                    next = Math.min(next, bout.overOn);
                }
            }
            return next;
        }

        void rateDay(Roll roll, int day) {
            wipe(changes);
            wipe(fresh);
            boolean hasGames = false;
            for (int g = 0; g < roll.boutCount; g++) {
                Bout bout = roll.boutAt(g);
                if (bout != null && bout.isRated() && bout.overOn == day) {
                    rate(bout, bout.first);
                    rate(bout, bout.second);
                    hasGames = true;
                }
            }
            if (hasGames && count < GAMES) {
                keep(day);
            }
        }

        void rate(Bout bout, int player) {
            int own = at(now, player);
            int apart = own - at(now, bout.otherThan(player));
            int expected = Math.max(0, Math.min(1000, 500 + apart * 5 / 4));
            int factor = at(played, player) < 5 ? 40 : own >= 2400 ? 10 : 20;
            add(changes, player, toThousands(factor * (500 * bout.pointsFor(player) - expected)));
            add(fresh, player, 1);
        }

        static int toThousands(int number) {
            return number < 0 ? -((500 - number) / 1000) : (number + 500) / 1000;
        }

        void keep(int day) {
            for (int p = 0; p < PLAYERS; p++) {
                if (at(fresh, p) > 0) {
                    put(now, p, Math.max(LEAST_RATING, at(now, p) + at(changes, p)));
                    add(played, p, at(fresh, p));
                }
                put(ended, count * PLAYERS + p, at(now, p));
            }
            put(days, count, day);
            count++;
        }

        int atDawn(int player, int day, int first) {
            int rating = first;
            for (int k = 0; k < count && at(days, k) < day; k++) {
                rating = at(ended, k * PLAYERS + player);
            }
            return rating;
        }

        boolean hasReached(int player, int rating) {
            for (int k = 0; k < count; k++) {
                if (at(ended, k * PLAYERS + player) >= rating) {
                    return true;
                }
            }
            return false;
        }

        boolean isLike(Ratings other) {
            boolean isLike = count == other.count;
            for (int p = 0; p < PLAYERS; p++) {
                isLike = isLike && at(now, p) == at(other.now, p) && at(played, p) == at(other.played, p);
            }
            for (int k = 0; k < count; k++) {
                isLike = isLike && at(days, k) == at(other.days, k);
            }
            for (int i = 0; i < count * PLAYERS; i++) {
                isLike = isLike && at(ended, i) == at(other.ended, i);
            }
            return isLike;
        }
    }
}
