import java.math.BigInteger;
import java.util.NoSuchElementException;

/** The bounds that promises 37 to 43 name: mark, overall, prize, share, overShare, checksum, isSound. */
public final class PrizesBoundsTest {
    private static final Class<IndexOutOfBoundsException> INDEX = IndexOutOfBoundsException.class;
    private static final Class<IllegalArgumentException> ARGUMENT = IllegalArgumentException.class;
    private static final Class<IllegalStateException> STATE = IllegalStateException.class;
    private static final Class<UnsupportedOperationException> SUPPORT = UnsupportedOperationException.class;
    private static final Class<NoSuchElementException> ELEMENT = NoSuchElementException.class;
    private static final Class<ArithmeticException> ARITHMETIC = ArithmeticException.class;
    private static final int LEAST = Integer.MIN_VALUE;
    private static final int MOST = Integer.MAX_VALUE;
    private static final int[] WRONG_PLAYERS = {-1, 7, 12, 32, LEAST, MOST};
    private static final int[] WRONG_EVENTS = {-1, 3, 4, 32, LEAST, MOST};
    private static final Check CHECK = new Check("PrizesBoundsTest");
    private static final Refusals MIDWAY = new Refusals(CHECK, Fests::midway);
    private static final Refusals FULL = new Refusals(CHECK, Fests::full);
    private static final Refusals NONE = new Refusals(CHECK, MindFest::new);

    public static void main(String[] args) {
        marksBySize();
        marksOfNothing();
        marksWithdrawn();
        marksOfFourEvents();
        marksRefused();
        ranksOverAll();
        ranksShared();
        prizesByRange();
        prizesByNumber();
        prizesRefused();
        sharesOfNothing();
        sharesOfOneRank();
        sharesOfAllAlike();
        sharesRemaining();
        sharesWithoutPrize();
        sharesSum();
        sharesRefused();
        overShares();
        overShareRefused();
        checksumsOfParts();
        checksumWraps();
        soundByMeetings();
        soundByByes();
        soundByDays();
        CHECK.close();
    }

    /** One event of so many players that is closed without games: all are alike, and ranked by numbers. */
    private static MindFest alike(int players, int... prizes) {
        MindFest fest = Fests.ofPlayers(12);
        fest.event('t', 7, (1 << players) - 1);
        fest.close(0);
        for (int prize : prizes) {
            fest.prize(0, prize);
        }
        return fest;
    }

    private static String marks(MindFest fest, int players) {
        StringBuilder text = new StringBuilder();
        for (int p = 0; p < players; p++) {
            text.append(p > 0 ? " " : "").append(fest.mark(p));
        }
        return text.toString();
    }

    private static void marksBySize() {
        String[] due = {"1000 0", "1000 500 0", "1000 666 333 0", "1000 750 500 250 0", "1000 800 600 400 200 0",
            "1000 833 666 500 333 166 0", "1000 857 714 571 428 285 142 0",
            "1000 875 750 625 500 375 250 125 0", "1000 888 777 666 555 444 333 222 111 0"};
        for (int players = 2; players <= 10; players++) {
            CHECK.is("37, players: " + players, marks(alike(players), players), due[players - 2]);
            CHECK.is("37, not entered", alike(players).mark(players), 0);
        }
    }

    private static void marksOfNothing() {
        CHECK.is("37, without events", Fests.ofPlayers(1).mark(0), 0);
        MindFest fest = Fests.ofPlayers(3);
        fest.event('t', 1, 3);
        CHECK.is("37, an event without games", marks(fest, 3), "0 0 0");
        fest.pair(0);
        CHECK.is("37, an event with a game", marks(fest, 3), "0 0 0");
        fest.end(0, '1');
        CHECK.is("37, an event all of whose rounds are over", marks(fest, 3), "0 0 0");
        fest.close(0);
        CHECK.is("37, closed", marks(fest, 3), "1000 0 0");
    }

    private static void marksWithdrawn() {
        MindFest first = Fests.ofPlayers(3);
        first.event('n', 1, 7);
        first.withdraw(0, 0);
        first.close(0);
        CHECK.is("37, the first one withdrew", marks(first, 3), "0 500 0");
        MindFest last = Fests.ofPlayers(3);
        last.event('n', 1, 7);
        last.withdraw(0, 2);
        last.close(0);
        CHECK.is("37, the last one withdrew, and is behind", marks(last, 3), "1000 500 0");
        MindFest all = Fests.ofPlayers(3);
        all.event('n', 1, 7);
        Fests.withdraw(all, 0, 0, 1, 2);
        CHECK.is("7, the first rank of those who withdrew", all.close(0), 0);
        CHECK.is("37, all withdrew", marks(all, 3), "0 0 0");
        MindFest banned = Fests.ofPlayers(4);
        banned.event('n', 1, 15);
        Fests.ban(banned, 0);
        banned.close(0);
        CHECK.is("37, one who is banned", marks(banned, 4), "1000 666 333 0");
    }

    private static void marksOfFourEvents() {
        MindFest fest = Fests.ofPlayers(5);
        for (int event = 0; event < 4; event++) {
            fest.event(event % 2 == 0 ? 't' : 'n', 1, 15);
        }
        String[] due = {"1000 666 333 0 0", "2000 1332 666 0 0", "3000 1998 999 0 0", "4000 2664 1332 0 0"};
        for (int event = 0; event < 4; event++) {
            fest.close(event);
            CHECK.is("37, closed events, each one cut: " + (event + 1), marks(fest, 5), due[event]);
        }
    }

    private static void marksRefused() {
        for (int player : WRONG_PLAYERS) {
            MIDWAY.refuse("37, no such player: " + player, INDEX, fest -> fest.mark(player));
            MIDWAY.refuse("38, no such player: " + player, INDEX, fest -> fest.overall(player));
        }
        FULL.refuse("37, player 12 of 12", INDEX, fest -> fest.mark(12));
        FULL.refuse("38, player 12 of 12", INDEX, fest -> fest.overall(12));
        NONE.refuse("37, there being none", INDEX, fest -> fest.mark(0));
        NONE.refuse("38, there being none", INDEX, fest -> fest.overall(0));
    }

    private static String overall(MindFest fest, int players) {
        StringBuilder text = new StringBuilder();
        for (int p = 0; p < players; p++) {
            text.append(p > 0 ? " " : "").append(fest.overall(p));
        }
        return text.toString();
    }

    private static void ranksOverAll() {
        CHECK.is("38, one player", Fests.ofPlayers(1).overall(0), 1);
        CHECK.is("38, without events all share", overall(Fests.ofPlayers(12), 12), "1 1 1 1 1 1 1 1 1 1 1 1");
        CHECK.is("38, ten of twelve, the last of them with none", overall(alike(10), 12),
                "1 2 3 4 5 6 7 8 9 10 10 10");
        MindFest fest = alike(2);
        fest.event('t', 7, 1023 << 2);
        fest.close(1);
        CHECK.is("38, 1000 0 and 1000 888 and so on", overall(fest, 12), "1 11 1 3 4 5 6 7 8 9 10 11");
    }

    private static void ranksShared() {
        MindFest fest = Fests.ofPlayers(7);
        fest.event('t', 1, 3);
        fest.event('n', 1, 12);
        fest.event('n', 1, 112);
        for (int event = 0; event < 3; event++) {
            fest.close(event);
        }
        CHECK.is("38, like ones share, the next one is behind all of them", overall(fest, 7), "1 5 1 5 1 4 5");
        MindFest open = Fests.ofPlayers(3);
        open.event('t', 1, 6);
        CHECK.is("38, not closed", overall(open, 3), "1 1 1");
        open.withdraw(0, 1);
        open.close(0);
        CHECK.is("38, the only one ahead withdrew", overall(open, 3), "1 1 1");
    }

    private static void prizesByRange() {
        MindFest fest = alike(6);
        int typed = 0;
        for (int prize : new int[]{0, 1, 99999, 100000}) {
            typed++;
            CHECK.is("39, prize " + prize, fest.prize(0, prize), typed);
        }
        for (int prize : new int[]{-1, 100001, LEAST, MOST}) {
            MIDWAY.refuse("39, prize " + prize, ARGUMENT, one -> one.prize(0, prize));
            MIDWAY.refuse("39, out of range goes ahead of not closed: " + prize, ARGUMENT, one -> one.prize(1, prize));
            FULL.refuse("39, out of range goes ahead of 6: " + prize, ARGUMENT, one -> one.prize(0, prize));
            FULL.refuse("39, out of range goes ahead of players: " + prize, ARGUMENT, one -> one.prize(2, prize));
        }
    }

    private static void prizesByNumber() {
        for (int players = 2; players <= 10; players++) {
            MindFest fest = alike(players);
            int most = Math.min(6, players);
            for (int typed = 1; typed <= most; typed++) {
                CHECK.is("39, typed for players: " + players, fest.prize(0, 7), typed);
            }
            CHECK.fails("39, one more for players: " + players, STATE, () -> fest.prize(0, 7));
            CHECK.yes("43, all prizes for players: " + players, fest.isSound());
        }
        MindFest gone = Fests.ofPlayers(2);
        gone.event('t', 1, 3);
        Fests.withdraw(gone, 0, 0, 1);
        gone.close(0);
        gone.prize(0, 4);
        CHECK.is("39, as many as players, who withdrew", gone.prize(0, 4), 2);
        CHECK.fails("39, one more than players, who withdrew", STATE, () -> gone.prize(0, 4));
        MindFest joined = Fests.ofPlayers(3);
        joined.event('t', 1, 3);
        joined.join(0, 2);
        joined.close(0);
        joined.prize(0, 4);
        joined.prize(0, 4);
        CHECK.is("39, as many as players, one of whom joined", joined.prize(0, 4), 3);
        CHECK.fails("39, one more than players, one of whom joined", STATE, () -> joined.prize(0, 4));
    }

    private static void prizesRefused() {
        FULL.refuse("39, a seventh", STATE, fest -> fest.prize(0, 7));
        FULL.refuse("39, a seventh of 0", STATE, fest -> fest.prize(0, 0));
        FULL.refuse("39, a third for two players", STATE, fest -> fest.prize(2, 7));
        FULL.refuse("39, event 4 of 4", INDEX, fest -> fest.prize(4, 7));
        FULL.refuse("39, all its rounds are over, but it is not closed", SUPPORT, fest -> fest.prize(3, 7));
        MIDWAY.refuse("39, a game goes on", SUPPORT, fest -> fest.prize(1, 7));
        MIDWAY.refuse("39, without games, not closed", SUPPORT, fest -> fest.prize(2, 7));
        for (int event : WRONG_EVENTS) {
            MIDWAY.refuse("39, no such event: " + event, INDEX, fest -> fest.prize(event, 7));
            MIDWAY.refuse("39, no such event goes first: " + event, INDEX, fest -> fest.prize(event, -1));
        }
        NONE.refuse("39, there being none", INDEX, fest -> fest.prize(0, 7));
    }

    private static String shares(MindFest fest, int players) {
        StringBuilder text = new StringBuilder();
        for (int p = 0; p < players; p++) {
            text.append(p > 0 ? " " : "").append(fest.share(0, p));
        }
        return text.toString();
    }

    private static void sharesOfNothing() {
        MindFest fest = Fests.ofPlayers(2);
        fest.event('t', 1, 3);
        CHECK.is("40, not closed", shares(fest, 2), "0 0");
        Fests.round(fest, 0, '1');
        CHECK.is("40, a game is over", shares(fest, 2), "0 0");
        fest.close(0);
        CHECK.is("40, no prize yet", shares(fest, 2), "0 0");
        fest.prize(0, 0);
        CHECK.is("40, a prize of 0", shares(fest, 2), "0 0");
        fest.prize(0, 0);
        CHECK.is("40, two prizes of 0", shares(fest, 2), "0 0");
    }

    /** Two of unlike points: each gets the own prize alone, whole, whether it is odd or not. */
    private static void sharesOfOneRank() {
        int[][] pairs = {{0, 0}, {1, 0}, {0, 1}, {1, 1}, {2, 3}, {99999, 1}, {100000, 100000}, {0, 100000}};
        for (int[] pair : pairs) {
            MindFest fest = Fests.ofPlayers(2);
            fest.event('t', 1, 3);
            Fests.round(fest, 0, '0');
            fest.close(0);
            fest.prize(0, pair[0]);
            CHECK.is("40, the first prize", shares(fest, 2), "0 " + pair[0]);
            fest.prize(0, pair[1]);
            CHECK.is("40, both prizes", shares(fest, 2), pair[1] + " " + pair[0]);
            CHECK.yes("43, shares sum", fest.isSound());
        }
    }

    private static void sharesOfAllAlike() {
        int most = 100000;
        CHECK.is("40, six of the highest among ten", shares(alike(10, most, most, most, most, most, most), 10),
                "80000 80000 80000 80000 80000 80000 30000 30000 30000 30000");
        CHECK.is("40, six of the highest among six", shares(alike(6, most, most, most, most, most, most), 6),
                "100000 100000 100000 100000 100000 100000");
        CHECK.is("40, the highest among two", shares(alike(2, most), 2), "75000 25000");
        CHECK.is("40, one of 1 among two", shares(alike(2, 1), 2), "1 0");
        CHECK.is("40, two of 1 among two", shares(alike(2, 1, 1), 2), "1 1");
        CHECK.is("40, one of 3 among two", shares(alike(2, 3), 2), "2 1");
        CHECK.is("40, the second one alone among two", shares(alike(2, 0, 2), 2), "1 1");
        CHECK.is("40, the second one of 1 among two", shares(alike(2, 0, 1), 2), "1 0");
    }

    /** Ten who are alike, a prize of 2 times a number: that half is the pool, and what is left goes 1 each. */
    private static void sharesRemaining() {
        String[] due = {"0 0 0 0 0 0 0 0 0 0", "2 0 0 0 0 0 0 0 0 0", "3 1 0 0 0 0 0 0 0 0", "4 1 1 0 0 0 0 0 0 0",
            "5 1 1 1 0 0 0 0 0 0", "6 1 1 1 1 0 0 0 0 0", "7 1 1 1 1 1 0 0 0 0", "8 1 1 1 1 1 1 0 0 0",
            "9 1 1 1 1 1 1 1 0 0", "10 1 1 1 1 1 1 1 1 0", "11 1 1 1 1 1 1 1 1 1", "13 1 1 1 1 1 1 1 1 1"};
        for (int half = 0; half < due.length; half++) {
            CHECK.is("40, a pool of " + half, shares(alike(10, 2 * half), 10), due[half]);
        }
        CHECK.is("40, what was cut is in the pool", shares(alike(10, 1, 1, 1, 1, 1, 1), 10), "1 1 1 1 1 1 0 0 0 0");
    }

    /** Ranks 0 and 2 with 2 points, 3 and 1 with none: of all who have the same points some have no prize. */
    private static void sharesWithoutPrize() {
        MindFest fest = Fests.ofRatings(2000, 1900, 1950, 1925);
        fest.event('t', 1, 15);
        fest.pair(0);
        fest.end(0, '1');
        fest.end(1, '1');
        fest.close(0);
        CHECK.is("40, ranks", "" + fest.ranked(0, 1) + fest.ranked(0, 2) + fest.ranked(0, 3) + fest.ranked(0, 4), "0231");
        fest.prize(0, 7);
        CHECK.is("40, the second one has none", shares(fest, 4), "5 0 2 0");
        fest.prize(0, 0);
        CHECK.is("40, the second one has 0", shares(fest, 4), "5 0 2 0");
        fest.prize(0, 1);
        CHECK.is("40, the fourth one has none: what cannot be split", shares(fest, 4), "5 0 2 1");
        fest.prize(0, 2);
        CHECK.is("40, all have one", shares(fest, 4), "5 2 2 1");
        CHECK.yes("43, shares sum", fest.isSound());
        MindFest gone = Fests.ofPlayers(2);
        gone.event('t', 1, 3);
        gone.withdraw(0, 0);
        gone.close(0);
        gone.prize(0, 10);
        CHECK.is("40, one who withdrew is ranked, and has a share", shares(gone, 2), "8 2");
    }

    private static void sharesSum() {
        int[] prizes = {99999, 77777, 5001, 333, 21, 1};
        for (int players = 6; players <= 10; players++) {
            MindFest fest = Fests.ofPlayers(12);
            fest.event('t', 2, (1 << players) - 1);
            Fests.round(fest, 0, '1');
            Fests.round(fest, 0, '=');
            fest.close(0);
            int sum = 0;
            for (int prize : prizes) {
                fest.prize(0, prize);
                sum += prize;
                int got = 0;
                for (int p = 0; p < players; p++) {
                    got += fest.share(0, p);
                }
                CHECK.is("40, money sums, players: " + players, got, sum);
                CHECK.yes("43, money sums, players: " + players, fest.isSound());
            }
        }
    }

    private static void sharesRefused() {
        MIDWAY.refuse("40, not in a closed event", ELEMENT, fest -> fest.share(0, 4));
        MIDWAY.refuse("40, not in an event that is not closed", ELEMENT, fest -> fest.share(1, 0));
        MIDWAY.refuse("40, not in an event without games", ELEMENT, fest -> fest.share(2, 6));
        FULL.refuse("40, not in an event of ten", ELEMENT, fest -> fest.share(0, 10));
        FULL.refuse("40, player 12 of 12", INDEX, fest -> fest.share(0, 12));
        FULL.refuse("40, event 4 of 4", INDEX, fest -> fest.share(4, 0));
        for (int player : WRONG_PLAYERS) {
            MIDWAY.refuse("40, no such player: " + player, INDEX, fest -> fest.share(0, player));
        }
        for (int event : WRONG_EVENTS) {
            MIDWAY.refuse("40, no such event: " + event, INDEX, fest -> fest.share(event, 0));
        }
        NONE.refuse("40, there being none", INDEX, fest -> fest.share(0, 0));
    }

    private static void overShares() {
        MindFest fest = Fests.ofPlayers(10);
        fest.event('t', 1, 1023);
        fest.event('n', 1, 15);
        fest.pair(0);
        fest.pair(1);
        CHECK.is("41, none is over", fest.overShare(), 0.0f);
        char[] results = {'1', '0', '=', '+', '-', '1', '0'};
        for (int game = 0; game < 7; game++) {
            fest.end(game, results[game]);
            CHECK.is("41, over of 7: " + (game + 1), fest.overShare(), (float) (game + 1) / (float) 7);
        }
        CHECK.is("41, all are over", fest.overShare(), 1.0f);
        CHECK.is("41, a hundred are over", Fests.hundredGames().overShare(), 1.0f);
        MindFest one = Fests.withGame('t');
        CHECK.is("41, the only one goes on", one.overShare(), 0.0f);
        one.move(0, 0, 999);
        CHECK.is("41, over by a flag", one.overShare(), 1.0f);
        MindFest most = Fests.ofPlayers(12);
        for (int event = 0; event < 3; event++) {
            most.event('t', 7, 1023);
        }
        for (int round = 0; round < 19; round++) {
            Fests.round(most, round / 7, '+');
        }
        int game = most.pair(2);
        CHECK.is("41, 95 of 100", most.overShare(), 95.0f / 100.0f);
        for (int more = 0; more < 4; more++) {
            most.adjudge(game + more);
        }
        CHECK.is("41, 99 of 100", most.overShare(), 99.0f / 100.0f);
    }

    private static void overShareRefused() {
        NONE.refuse("41, there are none", ARITHMETIC, MindFest::overShare);
        Refusals events = new Refusals(CHECK, () -> alike(10, 5));
        events.refuse("41, an event without games", ARITHMETIC, MindFest::overShare);
    }

    private static long sum(int... numbers) {
        long sum = 7;
        for (int number : numbers) {
            sum = 31 * sum + number;
        }
        return sum;
    }

    private static void checksumsOfParts() {
        MindFest fest = new MindFest();
        CHECK.is("42, at first", fest.checksum(), 7L);
        fest.day();
        CHECK.is("42, the day is not in it", fest.checksum(), 7L);
        fest.player(100, 9);
        CHECK.is("42, a player", fest.checksum(), sum(100));
        fest.player(3000, 0);
        CHECK.is("42, players by numbers", fest.checksum(), sum(100, 3000));
        fest.event('n', 3, 3);
        CHECK.is("42, an event", fest.checksum(), sum(100, 3000, 0, 0));
        fest.pair(0);
        CHECK.is("42, a game that goes on", fest.checksum(), sum(100, 3000, '*', 0, 0));
        fest.end(0, '+');
        CHECK.is("42, a result as a number", fest.checksum(), sum(100, 3000, 43, 2, 0));
        char[] results = {'-', '1', '0'};
        for (char result : results) {
            fest.correct(0, result);
            boolean isFirst = result == '1';
            CHECK.is("42, result " + result, fest.checksum(),
                    sum(100, 3000, result, isFirst ? 2 : 0, isFirst ? 0 : 2));
        }
        fest.player(200, 1);
        fest.event('t', 1, 6);
        fest.join(0, 2);
        CHECK.is("42, events and their players by numbers", fest.checksum(),
                sum(100, 3000, 200, '0', 0, 2, 0, 0, 0));
        fest.correct(0, '1');
        fest.day();
        CHECK.is("42, ratings by now", fest.checksum(), sum(140, 2960, 200, '1', 2, 0, 0, 0, 0));
        fest.withdraw(0, 0);
        CHECK.is("42, who withdrew is in it", fest.checksum(), sum(140, 2960, 200, '1', 2, 0, 0, 0, 0));
        fest.close(0);
        fest.prize(0, 1000);
        CHECK.is("42, prizes are not in it", fest.checksum(), sum(140, 2960, 200, '1', 2, 0, 0, 0, 0));
    }

    /** Far more is summed than a long holds: it wraps around, as long does. */
    private static void checksumWraps() {
        MindFest fest = Fests.hundredGames();
        BigInteger sum = BigInteger.valueOf(7);
        BigInteger times = BigInteger.valueOf(31);
        for (int p = 0; p < 12; p++) {
            sum = sum.multiply(times).add(BigInteger.valueOf(fest.rating(p)));
        }
        for (int g = 0; g < 100; g++) {
            sum = sum.multiply(times).add(BigInteger.valueOf(fest.result(g)));
        }
        for (int e = 0; e < 4; e++) {
            for (int p = e < 3 ? 0 : 10; p < (e < 3 ? 10 : 12); p++) {
                sum = sum.multiply(times).add(BigInteger.valueOf(fest.points(e, p)));
            }
        }
        CHECK.is("42, a sum that wraps around", fest.checksum(), sum.longValue());
        CHECK.yes("43, of a hundred games", fest.isSound());
    }

    private static void soundByMeetings() {
        CHECK.yes("43, a new object", new MindFest().isSound());
        CHECK.yes("43, midway", Fests.midway().isSound());
        CHECK.yes("43, full", Fests.full().isSound());
        for (char forfeit : new char[]{'+', '-'}) {
            for (char other : new char[]{'1', '0', '='}) {
                MindFest fest = Fests.ofPlayers(2);
                fest.event('t', 2, 3);
                Fests.round(fest, 0, forfeit);
                Fests.round(fest, 0, other);
                CHECK.yes("43, met once, and by " + forfeit, fest.isSound());
                fest.correct(0, other);
                CHECK.no("43, met twice, by " + other, fest.isSound());
                fest.correct(1, forfeit);
                CHECK.yes("43, met once, and then by " + forfeit, fest.isSound());
                fest.correct(0, forfeit);
                CHECK.yes("43, both by " + forfeit, fest.isSound());
            }
        }
        MindFest two = Fests.ofPlayers(2);
        two.event('t', 1, 3);
        two.event('t', 1, 3);
        Fests.round(two, 0, '1');
        Fests.round(two, 1, '1');
        CHECK.yes("43, met twice, in two events", two.isSound());
    }

    private static void soundByByes() {
        MindFest fest = Fests.ofPlayers(3);
        fest.event('n', 7, 7);
        for (int round = 0; round < 3; round++) {
            Fests.round(fest, 0, '+');
            CHECK.yes("43, each one a bye once", fest.isSound());
        }
        CHECK.fails("8, nobody is left who had no bye", SUPPORT, () -> fest.pair(0));
        MindFest events = Fests.ofPlayers(3);
        events.event('n', 1, 7);
        events.event('n', 1, 7);
        Fests.round(events, 0, '1');
        Fests.round(events, 1, '1');
        CHECK.is("11, a bye in each event", events.bye(0, 0) + events.bye(1, 0), 4);
        CHECK.yes("43, two byes, in two events", events.isSound());
    }

    private static void soundByDays() {
        MindFest fest = Fests.ofPlayers(4);
        int event = Fests.gauntlet(fest, 0, new int[]{1}, new int[]{2});
        for (int other = 2; other < 4; other++) {
            fest.day();
            fest.withdraw(event, other - 1);
            fest.join(event, other);
            Fests.win(fest, fest.pair(event), other);
            CHECK.yes("43, a day that has not ended", fest.isSound());
        }
        fest.day();
        CHECK.yes("43, three days", fest.isSound());
        fest.player(2500, 7);
        CHECK.yes("43, a later player", fest.isSound());
        for (char result : new char[]{'0', '=', '+', '-', '1'}) {
            fest.correct(0, result);
            CHECK.yes("43, reckoned anew by " + result, fest.isSound());
        }
        fest.day();
        CHECK.yes("43, a day without games", fest.isSound());
    }
}
