import java.math.BigDecimal;
import java.math.BigInteger;

/** The bounds that promises 30 to 36 name: norms, isTitled, agree, odds, suspect, lift, isBanned. */
public final class TitlesBoundsTest {
    private static final Class<IndexOutOfBoundsException> INDEX = IndexOutOfBoundsException.class;
    private static final Class<IllegalArgumentException> ARGUMENT = IllegalArgumentException.class;
    private static final Class<IllegalStateException> STATE = IllegalStateException.class;
    private static final Class<UnsupportedOperationException> SUPPORT = UnsupportedOperationException.class;
    private static final Class<ArithmeticException> ARITHMETIC = ArithmeticException.class;
    private static final int LEAST = Integer.MIN_VALUE;
    private static final int MOST = Integer.MAX_VALUE;
    private static final int[] WRONG_PLAYERS = {-1, 7, 12, 32, LEAST, MOST};
    private static final Check CHECK = new Check("TitlesBoundsTest");
    private static final Refusals MIDWAY = new Refusals(CHECK, Fests::midway);
    private static final Refusals FULL = new Refusals(CHECK, Fests::full);
    private static final Refusals NONE = new Refusals(CHECK, MindFest::new);

    public static void main(String[] args) {
        numberOfGames();
        byesAreNoGames();
        forfeitsAside();
        gamesOfOneEvent();
        otherLands();
        meanOfRatings();
        entryRatings();
        pointsOfPossible();
        closedEvents();
        normsOfWhoWithdrew();
        normsOfAllEvents();
        twoNorms();
        ratingAtFirst();
        ratingOfSomeDay();
        correctedTitle();
        agreements();
        agreementsRefused();
        oddsOfAll();
        oddsRefused();
        oddsBelow();
        oddsOfEachNumber();
        eyes();
        eyesRefused();
        lifted();
        liftRefused();
        banned();
        CHECK.close();
    }

    private static int[] all(int count, int number) {
        int[] row = new int[count];
        for (int i = 0; i < count; i++) {
            row[i] = number;
        }
        return row;
    }

    /** Player 0 of land 0 who has met all others, of the ratings and lands, in an event that is closed. */
    private static int normsBy(int[] ratings, int[] lands, int... points) {
        MindFest fest = new MindFest();
        fest.player(1500, 0);
        int[] others = new int[ratings.length];
        for (int i = 0; i < ratings.length; i++) {
            others[i] = fest.player(ratings[i], lands[i]);
        }
        fest.close(Fests.gauntlet(fest, 0, others, points));
        return fest.norms(0);
    }

    private static void numberOfGames() {
        CHECK.is("30, without events", Fests.ofPlayers(1).norms(0), 0);
        for (int games = 1; games <= 7; games++) {
            int due = games < 4 ? 0 : 1;
            CHECK.is("30, won games: " + games, normsBy(all(games, 1900), all(games, 1), all(games, 2)), due);
        }
    }

    /** So many wins, then a round with two who have no points, in which the winner has the bye. */
    private static int winsAndBye(int games) {
        MindFest fest = Fests.ofRatings(1500, 1900, 1900, 1900, 1900, 1900, 1900);
        int[] others = new int[games];
        for (int i = 0; i < games; i++) {
            others[i] = i + 1;
        }
        int event = Fests.gauntlet(fest, 0, others, all(games, 2));
        fest.withdraw(event, games);
        fest.join(event, 5);
        fest.join(event, 6);
        fest.end(fest.pair(event), '1');
        CHECK.is("30, the bye after games: " + games, fest.bye(event, games), 0);
        fest.close(event);
        return fest.norms(0);
    }

    private static void byesAreNoGames() {
        CHECK.is("30, three games and a bye", winsAndBye(3), 0);
        CHECK.is("30, four games and a bye", winsAndBye(4), 1);
    }

    private static void forfeitsAside() {
        int[] high = all(5, 1800);
        CHECK.is("30, three games and a win by forfeit", normsBy(all(4, 1900), all(4, 1), 2, 2, 2, 3), 0);
        CHECK.is("30, three games and a loss by forfeit", normsBy(all(4, 1900), all(4, 1), 2, 2, 2, -1), 0);
        CHECK.is("30, four games and a loss by forfeit, 6 of 8", normsBy(high, all(5, 1), 2, 2, 2, 0, -1), 1);
        CHECK.is("30, four games and a win by forfeit, 5 of 8", normsBy(high, all(5, 1), 2, 2, 1, 0, 3), 0);
        CHECK.is("30, one abroad and one by forfeit", normsBy(high, new int[]{1, 0, 0, 0, 1}, 2, 2, 2, 2, 3), 0);
        CHECK.is("30, one who is low, by forfeit", normsBy(new int[]{1800, 1800, 1800, 1800, 100}, all(5, 1),
                2, 2, 2, 2, 3), 1);
        CHECK.is("30, one who is high, by forfeit", normsBy(new int[]{1800, 1800, 1800, 1799, 3000}, all(5, 1),
                2, 2, 2, 2, 3), 0);
    }

    private static void gamesOfOneEvent() {
        MindFest fest = Fests.ofRatings(1500, 1900, 1900, 1900, 1900, 1900, 1900);
        fest.close(Fests.gauntlet(fest, 0, new int[]{1, 2, 3}, all(3, 2)));
        fest.close(Fests.gauntlet(fest, 0, new int[]{4, 5, 6}, all(3, 2)));
        CHECK.is("30, games of two events are not put together", fest.norms(0), 0);
    }

    private static void otherLands() {
        int[] high = all(4, 1800);
        int[] wins = all(4, 2);
        CHECK.is("30, none is of another land", normsBy(high, all(4, 0), wins), 0);
        CHECK.is("30, 1 is of another land", normsBy(high, new int[]{0, 0, 0, 9}, wins), 0);
        CHECK.is("30, 2 are of other lands", normsBy(high, new int[]{9, 0, 0, 1}, wins), 1);
        CHECK.is("30, 2 are of one other land", normsBy(high, new int[]{0, 3, 3, 0}, wins), 1);
        CHECK.is("30, 1 of 7 is of another land", normsBy(all(7, 1800), new int[]{0, 0, 0, 1, 0, 0, 0}, all(7, 2)), 0);
        CHECK.is("30, 2 of 7 are of other lands", normsBy(all(7, 1800), new int[]{1, 0, 0, 1, 0, 0, 0}, all(7, 2)), 1);
        CHECK.is("30, 2 are of other lands, who won", normsBy(all(6, 1800), new int[]{0, 0, 1, 1, 0, 0},
                2, 2, 0, 0, 2, 2), 1);
    }

    private static void meanOfRatings() {
        CHECK.is("30, mean 1799.75", normsBy(new int[]{1800, 1800, 1799, 1800}, all(4, 1), all(4, 2)), 0);
        CHECK.is("30, mean 1800", normsBy(all(4, 1800), all(4, 1), all(4, 2)), 1);
        CHECK.is("30, mean 1800 of unlike ones", normsBy(new int[]{3000, 3000, 100, 1100}, all(4, 1), all(4, 2)), 1);
        CHECK.is("30, mean 1799.75 of unlike ones",
                normsBy(new int[]{3000, 3000, 100, 1099}, all(4, 1), all(4, 2)), 0);
        int[] seven = all(7, 1800);
        CHECK.is("30, mean 1800 of seven", normsBy(seven, all(7, 1), all(7, 2)), 1);
        seven[6] = 1799;
        CHECK.is("30, mean just below 1800 of seven", normsBy(seven, all(7, 1), all(7, 2)), 0);
    }

    /** Six of whom 1 to 5 have 1800; 5 beats one of them, whose rating is below 1800 from the next day on. */
    private static MindFest ofEntries(int loser, boolean isEventAhead) {
        MindFest fest = Fests.ofRatings(1500, 1800, 1800, 1800, 1800, 1800);
        if (isEventAhead) {
            fest.event('t', 7, 3);
        }
        Fests.gauntlet(fest, 5, new int[]{loser}, new int[]{2});
        fest.day();
        CHECK.yes("30, less than 1800 by now", fest.rating(loser) < 1800);
        meetOneByOne(fest, isEventAhead ? 0 : fest.event('t', 7, 3));
        return fest;
    }

    private static void entryRatings() {
        CHECK.is("30, entered ahead of a loss", ofEntries(1, true).norms(0), 1);
        CHECK.is("30, entered after a loss", ofEntries(1, false).norms(0), 0);
        CHECK.is("30, joined after a loss", ofEntries(4, true).norms(0), 0);
        MindFest after = Fests.ofRatings(1500, 1800, 1800, 1800, 1800, 1800);
        meetOneByOne(after, after.event('t', 7, 3));
        after.day();
        CHECK.yes("30, less than 1800 after it", after.rating(1) < 1800);
        CHECK.is("30, after its day", after.norms(0), 1);
    }

    /** Player 0 beats 1 to 4 in an event that begins with 0 and 1, and is closed then. */
    private static void meetOneByOne(MindFest fest, int event) {
        for (int other = 1; other <= 4; other++) {
            if (other > 1) {
                fest.withdraw(event, other - 1);
                fest.join(event, other);
            }
            Fests.win(fest, fest.pair(event), 0);
        }
        fest.close(event);
    }

    private static int normsByPoints(int games, int points) {
        int[] each = new int[games];
        int rest = points;
        for (int i = 0; i < games; i++) {
            each[i] = Math.min(2, rest);
            rest -= each[i];
        }
        return normsBy(all(games, 1800), all(games, 1), each);
    }

    private static void pointsOfPossible() {
        int[][] least = {{4, 6}, {5, 7}, {6, 8}, {7, 10}};
        for (int[] pair : least) {
            int games = pair[0];
            CHECK.is("30, points of games: " + games, normsByPoints(games, pair[1]), 1);
            CHECK.is("30, a point less of games: " + games, normsByPoints(games, pair[1] - 1), 0);
            CHECK.is("30, no points of games: " + games, normsByPoints(games, 0), 0);
            CHECK.is("30, all points of games: " + games, normsByPoints(games, 2 * games), 1);
        }
        CHECK.is("30, by draws: 6 of 8", normsBy(all(4, 1800), all(4, 1), 1, 1, 2, 2), 1);
        CHECK.is("30, by draws: 5 of 8", normsBy(all(4, 1800), all(4, 1), 1, 1, 1, 2), 0);
    }

    private static void closedEvents() {
        MindFest fest = Fests.ofRatings(1500, 1900, 1900, 1900, 1900);
        int event = Fests.gauntlet(fest, 0, new int[]{1, 2, 3, 4}, all(4, 2));
        CHECK.is("30, not closed", fest.norms(0), 0);
        fest.day();
        CHECK.is("30, not closed, the day after", fest.norms(0), 0);
        fest.correct(0, '=');
        fest.close(event);
        CHECK.is("30, closed", fest.norms(0), 1);
        CHECK.is("30, of those who lost", fest.norms(1) + fest.norms(4), 0);
    }

    /** A norm asks for games in a closed event, not for being in it to its end; marks ask for that. */
    private static void normsOfWhoWithdrew() {
        MindFest fest = Fests.ofRatings(1500, 1900, 1900, 1900, 1900);
        int event = Fests.gauntlet(fest, 0, new int[]{1, 2, 3, 4}, all(4, 2));
        fest.withdraw(event, 0);
        fest.close(event);
        CHECK.is("30, one who withdrew after four games", fest.norms(0), 1);
        CHECK.is("37, from which this one withdrew", fest.mark(0), 0);
        MindFest banned = Fests.ofRatings(1500, 1900, 1900, 1900, 1900);
        int other = Fests.gauntlet(banned, 0, new int[]{1, 2, 3, 4}, all(4, 2));
        Fests.ban(banned, 0);
        banned.close(other);
        CHECK.is("30, one who is banned after four games", banned.norms(0), 1);
        CHECK.is("37, one who is banned after four games", banned.mark(0), 1000);
    }

    private static MindFest withNorms(int rating, int count) {
        MindFest fest = new MindFest();
        fest.player(rating, 0);
        for (int i = 0; i < 4; i++) {
            fest.player(1900, 1);
        }
        for (int i = 0; i < count; i++) {
            fest.close(Fests.gauntlet(fest, 0, new int[]{1, 2, 3, 4}, all(4, 2)));
        }
        return fest;
    }

    private static void normsOfAllEvents() {
        for (int count = 0; count <= 4; count++) {
            CHECK.is("30, events with a norm: " + count, withNorms(1500, count).norms(0), count);
        }
        for (int player : WRONG_PLAYERS) {
            MIDWAY.refuse("30, no such player: " + player, INDEX, fest -> fest.norms(player));
        }
        FULL.refuse("30, player 12 of 12", INDEX, fest -> fest.norms(12));
        NONE.refuse("30, there being none", INDEX, fest -> fest.norms(0));
    }

    private static void twoNorms() {
        for (int count = 0; count <= 4; count++) {
            CHECK.is("31, norms: " + count, withNorms(2500, count).isTitled(0), count >= 2);
        }
        CHECK.no("31, without events", Fests.ofRatings(3000).isTitled(0));
    }

    private static void ratingAtFirst() {
        CHECK.no("31, 1999 at first", withNorms(1999, 2).isTitled(0));
        CHECK.yes("31, 2000 at first", withNorms(2000, 2).isTitled(0));
        MindFest fest = Fests.ofRatings(2000, 1900, 1900, 1900, 1900, 1000, 1000, 1000);
        for (int i = 0; i < 2; i++) {
            fest.close(Fests.gauntlet(fest, 0, new int[]{1, 2, 3, 4}, new int[]{2, 2, 2, 0}));
        }
        Fests.gauntlet(fest, 0, new int[]{5, 6, 7}, new int[]{0, 0, 0});
        fest.day();
        CHECK.yes("31, below 2000 as the first day ended", fest.rating(0) < 2000);
        CHECK.yes("31, the one at first is enough", fest.isTitled(0));
    }

    /** With 1800 or 1799 at first, eight wins of 25 each make 2000 or 1999 as the day ends. */
    private static void ratingOfSomeDay() {
        MindFest low = withNorms(1799, 2);
        MindFest fest = withNorms(1800, 2);
        CHECK.no("31, the day has not ended", fest.isTitled(0));
        low.day();
        fest.day();
        CHECK.is("31, ratings as the day ended", low.rating(0) + " " + fest.rating(0), "1999 2000");
        CHECK.no("31, 1999 as a day ended", low.isTitled(0));
        CHECK.yes("31, 2000 as a day ended", fest.isTitled(0));
        CHECK.no("31, those without norms", fest.isTitled(1));
        fest.player(3000, 2);
        Fests.gauntlet(fest, 0, new int[]{1, 2}, new int[]{0, 0});
        fest.day();
        fest.day();
        CHECK.yes("31, below 2000 by now", fest.rating(0) < 2000);
        CHECK.yes("31, 2000 on some day", fest.isTitled(0));
        for (int player : WRONG_PLAYERS) {
            MIDWAY.refuse("31, no such player: " + player, INDEX, one -> one.isTitled(player));
        }
        FULL.refuse("31, player 12 of 12", INDEX, one -> one.isTitled(12));
        NONE.refuse("31, there being none", INDEX, one -> one.isTitled(0));
    }

    /** A win of an event that is not closed falls, and so does the day on which there were 2000. */
    private static void correctedTitle() {
        MindFest fest = withNorms(1779, 2);
        fest.player(1779, 1);
        Fests.gauntlet(fest, 0, new int[]{5}, new int[]{2});
        fest.day();
        CHECK.is("31, 1779, eight wins of 26 and one of 20", fest.rating(0), 1779 + 8 * 26 + 20);
        CHECK.yes("31, 2000 as the day ended", fest.isTitled(0));
        int last = 8;
        fest.correct(last, '=');
        CHECK.is("31, 1987 anew", fest.rating(0), 1987);
        CHECK.no("31, by ratings that are reckoned anew", fest.isTitled(0));
    }

    private static void agreements() {
        MindFest fest = Fests.ofPlayers(3);
        CHECK.is("32, one move, none agrees", fest.agree(0, 1, 0), 1);
        CHECK.is("32, one move, one agrees", fest.agree(0, 1, 1), 2);
        CHECK.is("32, 58 more", fest.agree(0, 58, 0), 60);
        CHECK.is("32, 60 at once, all agree", fest.agree(1, 60, 60), 60);
        CHECK.is("32, 60 at once, none agrees", fest.agree(2, 60, 0), 60);
        CHECK.fails("32, a 61st of 60", STATE, () -> fest.agree(0, 1, 1));
        CHECK.fails("32, 60 beside 60", STATE, () -> fest.agree(1, 60, 0));
        MindFest one = Fests.ofPlayers(1);
        one.agree(0, 59, 1);
        CHECK.fails("32, two beside 59", STATE, () -> one.agree(0, 2, 1));
        CHECK.is("32, one beside 59", one.agree(0, 1, 1), 60);
        MindFest other = Fests.ofPlayers(1);
        other.agree(0, 1, 1);
        CHECK.fails("32, 60 beside one", STATE, () -> other.agree(0, 60, 1));
        CHECK.is("32, 59 beside one", other.agree(0, 59, 59), 60);
        MindFest banned = Fests.midway();
        CHECK.is("32, of one who is banned", banned.agree(5, 51, 0), 60);
    }

    private static void agreementsRefused() {
        for (int moves : new int[]{0, -1, 61, 62, LEAST, MOST}) {
            MIDWAY.refuse("32, moves: " + moves, ARGUMENT, fest -> fest.agree(0, moves, 0));
            MIDWAY.refuse("32, moves, as many agree: " + moves, ARGUMENT, fest -> fest.agree(0, moves, moves));
        }
        for (int agreements : new int[]{-1, 6, 60, LEAST, MOST}) {
            MIDWAY.refuse("32, agreements of 5: " + agreements, ARGUMENT, fest -> fest.agree(0, 5, agreements));
        }
        MIDWAY.refuse("32, agreements of 60: 61", ARGUMENT, fest -> fest.agree(0, 60, 61));
        MIDWAY.refuse("32, agreements of 1: 2", ARGUMENT, fest -> fest.agree(0, 1, 2));
        MIDWAY.refuse("32, 53 beside 8", STATE, fest -> fest.agree(4, 53, 1));
        MIDWAY.refuse("32, 60 beside 8", STATE, fest -> fest.agree(4, 60, 60));
        MIDWAY.refuse("32, 61 beside 8: out of range goes first", ARGUMENT, fest -> fest.agree(4, 61, 1));
        MIDWAY.refuse("32, 53 beside 8, 54 agree: out of range goes first", ARGUMENT, fest -> fest.agree(4, 53, 54));
        MIDWAY.refuse("32, 53 beside 8, -1 agree: out of range goes first", ARGUMENT, fest -> fest.agree(4, 53, -1));
        for (int player : WRONG_PLAYERS) {
            MIDWAY.refuse("32, no such player: " + player, INDEX, fest -> fest.agree(player, 1, 1));
            MIDWAY.refuse("32, no such player goes first: " + player, INDEX, fest -> fest.agree(player, 0, 1));
        }
        FULL.refuse("32, player 12 of 12", INDEX, fest -> fest.agree(12, 1, 1));
        NONE.refuse("32, there being none", INDEX, fest -> fest.agree(0, 1, 1));
    }

    private static BigInteger waysFor(int moves, int agreements) {
        BigInteger ways = BigInteger.ONE;
        BigInteger enough = BigInteger.ZERO;
        for (int k = 0; k <= moves; k++) {
            if (k >= agreements) {
                enough = enough.add(ways);
            }
            ways = ways.multiply(BigInteger.valueOf(moves - k)).divide(BigInteger.valueOf(k + 1));
        }
        return enough;
    }

    private static BigDecimal chance(int moves, int agreements) {
        return new BigDecimal(waysFor(moves, agreements)).divide(new BigDecimal(BigInteger.TWO.pow(moves)));
    }

    private static MindFest told(int moves, int agreements) {
        MindFest fest = Fests.ofPlayers(12);
        fest.agree(0, moves, agreements);
        return fest;
    }

    /** Every number of moves and of agreements; the chance of none or more is 1, that of all is least. */
    private static void oddsOfAll() {
        for (int moves = 1; moves <= 60; moves++) {
            for (int agreements = 0; agreements <= moves; agreements++) {
                CHECK.is("33, " + agreements + " of " + moves, told(moves, agreements).odds(0),
                        chance(moves, agreements).doubleValue());
            }
        }
        CHECK.is("33, 0 of 60", told(60, 0).odds(0), 1.0);
        CHECK.is("33, 60 of 60", told(60, 60).odds(0), 1.0 / (1L << 60));
        MindFest fest = told(2, 2);
        fest.agree(0, 1, 0);
        CHECK.is("33, summed: 2 of 3", fest.odds(0), 0.5);
    }

    private static void oddsRefused() {
        CHECK.fails("33, no moves were told", ARITHMETIC, () -> Fests.ofPlayers(1).odds(0));
        MIDWAY.refuse("33, no moves of 0 were told", ARITHMETIC, fest -> fest.odds(0));
        MIDWAY.refuse("33, no moves of 6 were told", ARITHMETIC, fest -> fest.odds(6));
        for (int player : WRONG_PLAYERS) {
            MIDWAY.refuse("33, no such player: " + player, INDEX, fest -> fest.odds(player));
        }
        FULL.refuse("33, player 12 of 12", INDEX, fest -> fest.odds(12));
        NONE.refuse("33, there being none", INDEX, fest -> fest.odds(0));
    }

    private static boolean bansAt(int moves, int agreements) {
        MindFest fest = told(moves, agreements);
        CHECK.no("34, by one other", fest.suspect(0, 1));
        boolean isBanned = fest.suspect(0, 11);
        CHECK.is("36, as suspect answered", fest.isBanned(0), isBanned);
        return isBanned;
    }

    /** 0.01 itself cannot be: the odds that are nearest to it on both sides. */
    private static void oddsBelow() {
        CHECK.yes("34, the odds nearest below 0.01", bansAt(54, 36));
        CHECK.no("34, the odds nearest above 0.01", bansAt(32, 23));
        CHECK.no("34, 6 of 6: 1 by 64", bansAt(6, 6));
        CHECK.yes("34, 7 of 7: 1 by 128", bansAt(7, 7));
        CHECK.no("34, 1 of 1", bansAt(1, 1));
        CHECK.no("34, 0 of 60", bansAt(60, 0));
        CHECK.yes("34, 60 of 60", bansAt(60, 60));
    }

    private static void oddsOfEachNumber() {
        BigDecimal bound = new BigDecimal("0.01");
        for (int moves = 7; moves <= 60; moves++) {
            int least = 0;
            while (chance(moves, least).compareTo(bound) >= 0) {
                least++;
            }
            CHECK.yes("34, below 0.01: " + least + " of " + moves, bansAt(moves, least));
            CHECK.no("34, not below 0.01: " + (least - 1) + " of " + moves, bansAt(moves, least - 1));
        }
    }

    private static void eyes() {
        MindFest fest = told(20, 20);
        CHECK.no("34, eyes of 1", fest.suspect(0, 5));
        CHECK.fails("34, told once", SUPPORT, () -> fest.suspect(0, 5));
        CHECK.no("34, 1 is not 2 by telling again", fest.isBanned(0));
        CHECK.yes("34, eyes of 2", fest.suspect(0, 6));
        CHECK.fails("34, banned", SUPPORT, () -> fest.suspect(0, 7));
        CHECK.fails("34, banned and told", SUPPORT, () -> fest.suspect(0, 5));
        MindFest later = told(6, 6);
        CHECK.no("34, odds not below, eyes of 1", later.suspect(0, 1));
        CHECK.no("34, odds not below, eyes of 2", later.suspect(0, 2));
        later.agree(0, 20, 20);
        CHECK.no("34, looked at as eyes are told alone", later.isBanned(0));
        later.day();
        CHECK.no("34, not as a day ends", later.isBanned(0));
        CHECK.fails("34, told again does not look", SUPPORT, () -> later.suspect(0, 2));
        CHECK.yes("34, looked at, eyes of 3", later.suspect(0, 3));
        MindFest grown = told(7, 7);
        grown.suspect(0, 1);
        grown.agree(0, 7, 0);
        CHECK.no("34, by the odds as eyes are told", grown.suspect(0, 2));
        MindFest nothing = Fests.ofPlayers(3);
        CHECK.no("34, nothing was told, eyes of 1", nothing.suspect(2, 0));
        CHECK.no("34, nothing was told, eyes of 2", nothing.suspect(2, 1));
        CHECK.no("34, of one on whom there are none", nothing.suspect(0, 1));
        MindFest others = Fests.midway();
        CHECK.no("34, by one who is banned, eyes of 1", others.suspect(6, 5));
        CHECK.yes("34, by one who is banned, eyes of 2", others.suspect(4, 5));
    }

    private static void eyesRefused() {
        for (int player : WRONG_PLAYERS) {
            MIDWAY.refuse("34, no such player: " + player, INDEX, fest -> fest.suspect(player, 0));
            MIDWAY.refuse("34, no such player by whom: " + player, INDEX, fest -> fest.suspect(0, player));
            MIDWAY.refuse("34, no such player, both the same: " + player, INDEX, fest -> fest.suspect(player, player));
            MIDWAY.refuse("34, banned, no such player by whom: " + player, INDEX, fest -> fest.suspect(5, player));
        }
        MIDWAY.refuse("34, both the same", ARGUMENT, fest -> fest.suspect(0, 0));
        MIDWAY.refuse("34, both the same, the last one", ARGUMENT, fest -> fest.suspect(6, 6));
        MIDWAY.refuse("34, both the same goes ahead of banned", ARGUMENT, fest -> fest.suspect(5, 5));
        MIDWAY.refuse("34, this one was told", SUPPORT, fest -> fest.suspect(4, 0));
        MIDWAY.refuse("34, banned", SUPPORT, fest -> fest.suspect(5, 2));
        MIDWAY.refuse("34, banned, and this one was told", SUPPORT, fest -> fest.suspect(5, 0));
        FULL.refuse("34, player 12 of 12", INDEX, fest -> fest.suspect(12, 0));
        FULL.refuse("34, by player 12 of 12", INDEX, fest -> fest.suspect(0, 12));
        NONE.refuse("34, there being none", INDEX, fest -> fest.suspect(0, 0));
    }

    private static int liftedAfter(int eyes) {
        MindFest fest = Fests.ofPlayers(12);
        for (int by = 1; by < eyes; by++) {
            CHECK.no("34, nothing was told", fest.suspect(0, by));
        }
        fest.agree(0, 20, 20);
        CHECK.yes("34, banned by the last one", fest.suspect(0, eyes));
        return fest.lift(0);
    }

    private static void lifted() {
        for (int eyes : new int[]{2, 3, 11}) {
            CHECK.is("35, eyes: " + eyes, liftedAfter(eyes), eyes);
        }
        MindFest fest = Fests.midway();
        fest.suspect(6, 5);
        CHECK.is("35, eyes of two", fest.lift(5), 2);
        CHECK.no("36, lifted", fest.isBanned(5));
        CHECK.fails("35, lifted once", SUPPORT, () -> fest.lift(5));
        CHECK.fails("35, no moves are told any more", ARITHMETIC, () -> fest.odds(5));
        CHECK.fails("35, the eyes of this one on others stay", SUPPORT, () -> fest.suspect(6, 5));
        CHECK.fails("35, the eyes on others stay", SUPPORT, () -> fest.suspect(4, 0));
        CHECK.is("35, the moves of others stay", fest.odds(4), 1.0 / 256);
        CHECK.is("35, 60 may be told again", fest.agree(5, 60, 60), 60);
        CHECK.no("35, eyes are told anew: 1", fest.suspect(5, 0));
        CHECK.yes("35, eyes are told anew: 2", fest.suspect(5, 1));
        CHECK.is("35, lifted again", fest.lift(5), 2);
        CHECK.is("35, two moves are told after that", fest.agree(5, 2, 1), 2);
        CHECK.is("35, no agreements of before count", fest.odds(5), 0.75);
        CHECK.is("35, none agrees", fest.agree(5, 1, 0), 3);
        CHECK.is("35, 1 of 3", fest.odds(5), 0.875);
    }

    private static void liftRefused() {
        MIDWAY.refuse("35, one of whom nothing was told", SUPPORT, fest -> fest.lift(0));
        MIDWAY.refuse("35, one who is told, not banned", SUPPORT, fest -> fest.lift(4));
        for (int player : WRONG_PLAYERS) {
            MIDWAY.refuse("35, no such player: " + player, INDEX, fest -> fest.lift(player));
        }
        FULL.refuse("35, player 12 of 12", INDEX, fest -> fest.lift(12));
        NONE.refuse("35, there being none", INDEX, fest -> fest.lift(0));
    }

    private static void banned() {
        MindFest fest = Fests.midway();
        CHECK.no("36, at first", Fests.ofPlayers(1).isBanned(0));
        CHECK.no("36, odds below 0.01 and eyes of one", fest.isBanned(4));
        CHECK.yes("36, banned", fest.isBanned(5));
        fest.agree(5, 51, 0);
        CHECK.yes("36, odds that are not below any more do not lift", fest.isBanned(5));
        CHECK.is("35, then too", fest.lift(5), 2);
        for (int player : WRONG_PLAYERS) {
            MIDWAY.refuse("36, no such player: " + player, INDEX, one -> one.isBanned(player));
        }
        FULL.refuse("36, player 12 of 12", INDEX, one -> one.isBanned(12));
        NONE.refuse("36, there being none", INDEX, one -> one.isBanned(0));
    }
}
