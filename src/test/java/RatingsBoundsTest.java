import java.math.BigDecimal;
import java.math.RoundingMode;
import java.util.NoSuchElementException;

/** The bounds that promises 26 to 29 name: day, rating, ratingOn, rated. */
public final class RatingsBoundsTest {
    private static final Class<IndexOutOfBoundsException> INDEX = IndexOutOfBoundsException.class;
    private static final Class<NoSuchElementException> ELEMENT = NoSuchElementException.class;
    private static final int LEAST = Integer.MIN_VALUE;
    private static final int MOST = Integer.MAX_VALUE;
    private static final Check CHECK = new Check("RatingsBoundsTest");
    private static final Refusals MIDWAY = new Refusals(CHECK, Fests::midway);
    private static final Refusals FULL = new Refusals(CHECK, Fests::full);

    public static void main(String[] args) {
        firstDays();
        lastDay();
        overOnADay();
        expectationCut();
        expectationFromNothing();
        expectationToThousand();
        halvesByTwenty();
        halvesByTen();
        changesAreSummed();
        notBelowHundred();
        hundredAfterTheSum();
        fewerThanFive();
        fiveAheadOfTheDay();
        fiveByCorrection();
        from2400();
        correctedOnTheDay();
        correctedAnew();
        correctedToForfeit();
        hundredDays();
        ratingsOfDays();
        laterPlayers();
        ratedGames();
        numbersRefused();
        CHECK.close();
    }

    private static void firstDays() {
        MindFest fest = new MindFest();
        CHECK.is("26, the day then, without players", fest.day(), 1);
        CHECK.is("26, the day then, again", fest.day(), 2);
        fest.player(1500, 0);
        CHECK.is("27, the rating on the first day", fest.rating(0), 1500);
        CHECK.is("26, a day without games", fest.day(), 3);
        CHECK.is("27, after a day without games", fest.rating(0), 1500);
    }

    /** It takes more calls than an object is used for: all that is looked at is that the days end. */
    private static void lastDay() {
        MindFest fest = new MindFest();
        fest.player(1500, 0);
        for (int day = 0; day < 9998; day++) {
            fest.day();
        }
        CHECK.is("26, the last day", fest.day(), 9999);
        CHECK.fails("26, if it is 9999", IllegalStateException.class, fest::day);
        CHECK.fails("26, if it is 9999, again", IllegalStateException.class, fest::day);
        CHECK.is("28, the last day began", fest.ratingOn(0, 9999), 1500);
        CHECK.fails("28, no day more", ELEMENT, () -> fest.ratingOn(0, 10000));
    }

    /** A game is rated on the day on which it is over, not on that on which it was paired. */
    private static void overOnADay() {
        MindFest fest = Fests.ofPlayers(2);
        fest.event('t', 1, 3);
        fest.pair(0);
        fest.day();
        CHECK.is("26, a game that goes on is not rated", fest.rating(0), 1500);
        fest.move(0, 0, 1);
        fest.day();
        fest.end(0, '1');
        CHECK.is("27, at the beginning of the day", fest.rating(0), 1500);
        fest.day();
        CHECK.is("26, games that were over on it", fest.rating(0), 1520);
        fest.day();
        CHECK.is("26, once only", fest.rating(0), 1520);
        CHECK.is("28, each day", fest.ratingOn(0, 1) + " " + fest.ratingOn(0, 2) + " " + fest.ratingOn(0, 3) + " "
                + fest.ratingOn(0, 4), "1500 1500 1520 1520");
        for (char result : new char[]{'+', '-'}) {
            CHECK.is("26, forfeits aside: " + result, after(1500, 1500, result), "1500 1500");
        }
        CHECK.is("26, rated by a flag", afterFlag(), "1480 1520");
        CHECK.is("26, rated by adjudging", afterAdjudging(), "1520 1480");
    }

    private static String ratings(MindFest fest) {
        return fest.rating(0) + " " + fest.rating(1);
    }

    private static String afterFlag() {
        MindFest fest = Fests.withGame('n');
        fest.move(0, 1, 999);
        fest.day();
        return ratings(fest);
    }

    private static String afterAdjudging() {
        MindFest fest = Fests.withGame('n');
        fest.adjudge(0);
        fest.day();
        return ratings(fest);
    }

    /** Plays one game of two new players, and tells both ratings on the day after. */
    private static String after(int first, int second, char result) {
        MindFest fest = Fests.ofRatings(first, second);
        fest.event('t', 1, 3);
        fest.pair(0);
        fest.end(0, result);
        fest.day();
        return ratings(fest);
    }

    /** With the factor 40 a draw changes nothing up to 12 thousandths beside 500, and 1 from 13 on. */
    private static void expectationCut() {
        CHECK.is("expectation, times 5 by 4, cut: 10 makes 12", after(1510, 1500, '='), "1510 1500");
        CHECK.is("expectation, times 5 by 4, cut: -10 makes -12", after(1500, 1510, '='), "1500 1510");
        CHECK.is("expectation, times 5 by 4, cut: 11 makes 13", after(1511, 1500, '='), "1510 1501");
        CHECK.is("expectation, times 5 by 4, cut: -11 makes -13", after(1500, 1511, '='), "1501 1510");
        CHECK.is("expectation of like ones: 500", after(1500, 1500, '1'), "1520 1480");
        CHECK.is("expectation of like ones, a loss", after(1500, 1500, '0'), "1480 1520");
        CHECK.is("expectation of like ones, a draw", after(1500, 1500, '='), "1500 1500");
        CHECK.is("expectation, 29 makes 36: 1.44", after(1529, 1500, '='), "1528 1501");
        CHECK.is("expectation, 30 makes 37, 1.48", after(1530, 1500, '='), "1529 1501");
        CHECK.is("expectation, 31 makes 38, 1.52", after(1531, 1500, '='), "1529 1502");
    }

    /** By 390 less 13 thousandths are expected, by 391 less 12, by 411 less none, as there are none below 0. */
    private static void expectationFromNothing() {
        CHECK.is("expectation, 390 less, a loss", after(1500, 1890, '0'), "1499 1891");
        CHECK.is("expectation, 390 less, a win: 39.48", after(1500, 1890, '1'), "1539 1851");
        CHECK.is("expectation, 391 less, a loss", after(1500, 1891, '0'), "1500 1891");
        CHECK.is("expectation within 0: 400 less", after(1500, 1900, '0'), "1500 1900");
        CHECK.is("expectation within 0: 411 less", after(1500, 1911, '0'), "1500 1911");
        CHECK.is("expectation within 0: 411 less, a win", after(1500, 1911, '1'), "1540 1871");
        CHECK.is("expectation within 0: 411 less, a draw", after(1500, 1911, '='), "1520 1891");
        CHECK.is("expectation within 0: 2900 less", after(100, 3000, '1'), "140 2960");
        CHECK.is("expectation within 0: 2900 less, a draw", after(100, 3000, '='), "120 2980");
        CHECK.is("expectation within 0: 2900 less, a loss", after(100, 3000, '0'), "100 3000");
    }

    private static void expectationToThousand() {
        CHECK.is("expectation, 390 more, a win", after(1890, 1500, '1'), "1891 1499");
        CHECK.is("expectation, 391 more, a win", after(1891, 1500, '1'), "1891 1500");
        CHECK.is("expectation within 1000: 400 more", after(1900, 1500, '1'), "1900 1500");
        CHECK.is("expectation within 1000: 411 more", after(1911, 1500, '1'), "1911 1500");
        CHECK.is("expectation within 1000: 411 more, a loss", after(1911, 1500, '0'), "1871 1540");
        CHECK.is("expectation within 1000: 2900 more", after(3000, 100, '1'), "3000 100");
        CHECK.is("expectation within 1000: 2900 more, a loss", after(3000, 100, '0'), "2960 140");
    }

    /** Two players have lost five games each that were sure to be lost, so that their factor is 20; then they draw. */
    private static String drawByTwenty(int first, int second) {
        MindFest fest = Fests.ofRatings(first, 3000, 3000, 3000, 3000, 3000, second, 3000, 3000, 3000, 3000, 3000);
        int event = Fests.gauntlet(fest, 0, new int[]{1, 2, 3, 4, 5}, new int[]{0, 0, 0, 0, 0});
        Fests.gauntlet(fest, 6, new int[]{7, 8, 9, 10, 11}, new int[]{0, 0, 0, 0, 0});
        fest.day();
        fest.withdraw(event, 5);
        fest.join(event, 6);
        fest.end(fest.pair(event), '=');
        fest.day();
        return fest.rating(0) + " " + fest.rating(6);
    }

    private static void halvesByTwenty() {
        CHECK.is("nearest, by 20: 19 apart makes 23, .46", drawByTwenty(1019, 1000), "1019 1000");
        CHECK.is("halves away from 0: 20 apart makes 25, .5", drawByTwenty(1020, 1000), "1019 1001");
        CHECK.is("halves away from 0: 20 less", drawByTwenty(1000, 1020), "1001 1019");
        CHECK.is("nearest, by 20: 59 apart makes 73, 1.46", drawByTwenty(1059, 1000), "1058 1001");
        CHECK.is("halves away from 0: 60 apart makes 75, 1.5", drawByTwenty(1060, 1000), "1058 1002");
    }

    /** The same with wins against far weaker ones, so that the factor is 10 from 2400 on. */
    private static String drawByTen(int first, int second) {
        MindFest fest = Fests.ofRatings(first, 1000, 1000, 1000, 1000, 1000, second, 1000, 1000, 1000, 1000, 1000);
        int event = Fests.gauntlet(fest, 0, new int[]{1, 2, 3, 4, 5}, new int[]{2, 2, 2, 2, 2});
        Fests.gauntlet(fest, 6, new int[]{7, 8, 9, 10, 11}, new int[]{2, 2, 2, 2, 2});
        fest.day();
        fest.withdraw(event, 5);
        fest.join(event, 6);
        fest.end(fest.pair(event), '=');
        fest.day();
        return fest.rating(0) + " " + fest.rating(6);
    }

    private static void halvesByTen() {
        CHECK.is("nearest, by 10: 39 apart makes 48, .48", drawByTen(2539, 2500), "2539 2500");
        CHECK.is("halves away from 0, by 10: 40 apart makes 50, .5", drawByTen(2540, 2500), "2539 2501");
        CHECK.is("10 for one, 20 for the other: 40 apart", drawByTen(2439, 2399), "2438 2400");
        CHECK.is("10 from 2400 on, 40 apart", drawByTen(2440, 2400), "2439 2401");
        CHECK.is("10 from 2400 on, 28 apart makes 35, .35", drawByTen(2428, 2400), "2428 2400");
        CHECK.is("20 below 2400, 28 apart makes 35, .7", drawByTen(2399, 2371), "2398 2372");
    }

    /** Two draws of .48 each change nothing, since each change is a whole number; two of .52 change 2. */
    private static void changesAreSummed() {
        MindFest less = Fests.ofRatings(1510, 1500, 1500);
        Fests.gauntlet(less, 0, new int[]{1, 2}, new int[]{1, 1});
        less.day();
        CHECK.is("changes of a day are summed: 0 and 0", less.rating(0), 1510);
        MindFest more = Fests.ofRatings(1511, 1500, 1500);
        Fests.gauntlet(more, 0, new int[]{1, 2}, new int[]{1, 1});
        more.day();
        CHECK.is("changes of a day are summed: 1 and 1", more.rating(0), 1509);
        MindFest seven = Fests.ofRatings(1500, 1500, 1500, 1500, 1500, 1500, 1500, 1500);
        Fests.gauntlet(seven, 0, new int[]{1, 2, 3, 4, 5, 6, 7}, new int[]{2, 2, 2, 2, 2, 2, 2});
        seven.day();
        CHECK.is("at once, by the ratings and games at its beginning: seven of 20", seven.rating(0), 1640);
        CHECK.is("by the ratings at its beginning: the last one", seven.rating(7), 1480);
    }

    private static void notBelowHundred() {
        CHECK.is("no rating below 100: 100 less 20", after(100, 100, '0'), "100 120");
        CHECK.is("no rating below 100: 101 less 20", after(101, 101, '0'), "100 121");
        CHECK.is("no rating below 100: 119 less 20", after(119, 119, '0'), "100 139");
        CHECK.is("no rating below 100: 120 less 20", after(120, 120, '0'), "100 140");
        CHECK.is("above 100: 121 less 20", after(121, 121, '0'), "101 141");
        CHECK.is("no bound above: 3000 and 20", after(3000, 3000, '1'), "3020 2980");
    }

    private static void hundredAfterTheSum() {
        MindFest fest = Fests.ofRatings(100, 100, 100);
        Fests.gauntlet(fest, 0, new int[]{1, 2}, new int[]{0, 2});
        fest.day();
        CHECK.is("no rating below 100: a loss and a win in sum", fest.rating(0), 100);
        MindFest next = Fests.ofRatings(100, 100, 100, 100);
        int event = Fests.gauntlet(next, 0, new int[]{1, 2}, new int[]{0, 0});
        next.day();
        CHECK.is("no rating below 100: two losses", next.rating(0), 100);
        next.withdraw(event, 2);
        next.join(event, 3);
        Fests.win(next, next.pair(event), 0);
        next.day();
        CHECK.is("on the day after a win counts from 100 on", next.rating(0), 120);
    }

    /** So many games that were sure to be won against 1000, on one day; then one that was is lost on the next. */
    private static int lossAfter(int rating, int games) {
        MindFest fest = Fests.ofRatings(rating, 1000, 1000, 1000, 1000, 1000, 1000, 1000);
        int[] others = new int[games];
        int[] wins = new int[games];
        for (int i = 0; i < games; i++) {
            others[i] = i + 1;
            wins[i] = 2;
        }
        int event = Fests.gauntlet(fest, 0, others, wins);
        fest.day();
        fest.withdraw(event, games);
        fest.join(event, games + 1);
        Fests.win(fest, fest.pair(event), games + 1);
        fest.day();
        return fest.rating(0);
    }

    private static void fewerThanFive() {
        CHECK.is("factor 40 with 1 rated game", lossAfter(1900, 1), 1860);
        CHECK.is("factor 40 with fewer than 5: 4", lossAfter(1900, 4), 1860);
        CHECK.is("factor 20 with 5", lossAfter(1900, 5), 1880);
        CHECK.is("factor 20 with 6", lossAfter(1900, 6), 1880);
        CHECK.is("factor 40 with fewer than 5 goes ahead of 2400", lossAfter(2400, 4), 2360);
        CHECK.is("factor 40 of 3000", lossAfter(3000, 4), 2960);
    }

    /** All games of the day count from the rated ones ahead of it: the fifth and the sixth of a day are by 40. */
    private static void fiveAheadOfTheDay() {
        MindFest fest = Fests.ofRatings(1900, 1000, 1000, 1000, 1000, 1000, 1000, 1000, 1000);
        Fests.gauntlet(fest, 0, new int[]{1, 2, 3, 4, 5, 6, 7}, new int[]{0, 0, 0, 0, 0, 0, 0});
        fest.day();
        CHECK.is("ahead of the day: seven by 40", fest.rating(0), 1900 - 7 * 40);
        CHECK.is("rated games", fest.rated(0), 7);
        int event = Fests.gauntlet(fest, 0, new int[]{8}, new int[]{0});
        fest.day();
        CHECK.is("ahead of the day: the eighth by 20", fest.rating(0), 1620 - 20);
        CHECK.is("rounds", fest.rounds(event), 1);
    }

    /** A forfeit that is corrected is the fifth rated game of its day, and so changes the factor of the next one. */
    private static void fiveByCorrection() {
        MindFest fest = Fests.ofRatings(1900, 1000, 1000, 1000, 1000, 1000, 1000);
        int event = Fests.gauntlet(fest, 0, new int[]{1, 2, 3, 4, 5}, new int[]{2, 2, 2, 2, 3});
        fest.day();
        fest.withdraw(event, 5);
        fest.join(event, 6);
        int game = fest.pair(event);
        Fests.win(fest, game, 6);
        fest.day();
        CHECK.is("four rated games ahead, the forfeit aside", fest.rating(0), 1860);
        fest.correct(4, fest.playerOf(4, true) == 0 ? '1' : '0');
        CHECK.is("five rated games ahead, by correcting", fest.rating(0), 1880);
        fest.correct(4, '-');
        CHECK.is("four again", fest.rating(0), 1860);
    }

    private static void from2400() {
        CHECK.is("factor 20 below 2400: 2399", lossAfter(2399, 5), 2379);
        CHECK.is("factor 10 from 2400 on", lossAfter(2400, 5), 2390);
        CHECK.is("factor 10 from 2400 on: 2401", lossAfter(2401, 5), 2391);
        CHECK.is("factor 10 of 3000", lossAfter(3000, 5), 2990);
    }

    private static void correctedOnTheDay() {
        MindFest fest = Fests.ofPlayers(2);
        fest.event('t', 1, 3);
        fest.pair(0);
        fest.end(0, '1');
        fest.correct(0, '0');
        CHECK.is("19, on its day nothing is rated by it", ratings(fest), "1500 1500");
        CHECK.is("19, on its day no game is rated", fest.rated(0), 0);
        fest.day();
        CHECK.is("26, as corrected", ratings(fest), "1480 1520");
    }

    private static void correctedAnew() {
        MindFest fest = Fests.ofPlayers(4);
        int event = Fests.gauntlet(fest, 0, new int[]{1}, new int[]{2});
        fest.day();
        fest.day();
        fest.withdraw(event, 1);
        fest.join(event, 2);
        Fests.win(fest, fest.pair(event), 0);
        fest.day();
        CHECK.is("1520, then 525 expected", fest.rating(0) + " " + fest.rating(2), "1539 1481");
        fest.player(1700, 4);
        fest.correct(0, '0');
        CHECK.is("19, all days anew: 475 expected", fest.rating(0) + " " + fest.rating(2), "1501 1479");
        CHECK.is("19, each game on its own day", fest.ratingOn(0, 0) + " " + fest.ratingOn(0, 1) + " "
                + fest.ratingOn(0, 2) + " " + fest.ratingOn(0, 3), "1500 1480 1480 1501");
        CHECK.is("19, who was added after that", fest.rating(4), 1700);
        CHECK.is("19, rated games stay", fest.rated(0) + " " + fest.rated(1) + " " + fest.rated(2), "2 1 1");
        CHECK.yes("43, ratings are what all days make anew", fest.isSound());
        fest.day();
        CHECK.is("26, the day after a correction", fest.rating(0), 1501);
    }

    private static void correctedToForfeit() {
        MindFest fest = Fests.ofPlayers(2);
        fest.event('t', 1, 3);
        Fests.round(fest, 0, '1');
        fest.day();
        fest.correct(0, '+');
        CHECK.is("19, forfeits aside, anew", ratings(fest), "1500 1500");
        CHECK.is("29, forfeits aside, anew", fest.rated(0) + fest.rated(1), 0);
        fest.correct(0, '=');
        CHECK.is("29, rated again", fest.rated(0) + fest.rated(1), 2);
        fest.correct(0, '0');
        CHECK.is("19, on its own day", fest.ratingOn(0, 0) + " " + fest.ratingOn(0, 1), "1500 1480");
    }

    /** All hundred games are over on days of their own; then the first one is corrected, and all are reckoned anew. */
    private static void hundredDays() {
        MindFest fest = Fests.ofRatings(1500, 1620, 1740, 1860, 1980, 2100, 2220, 2340, 2460, 2580);
        int[][] games = new int[100][];
        for (int event = 0; event < 4; event++) {
            fest.event('t', 5, 1023);
        }
        for (int game = 0; game < 100; game++) {
            if (game % 5 == 0) {
                CHECK.is("8, a round of five", fest.pair(game / 25), game);
            }
            games[game] = new int[]{fest.playerOf(game, true), fest.playerOf(game, false), game % 3};
            fest.end(game, "0=1".charAt(game % 3));
            CHECK.is("26, the day then", fest.day(), game + 1);
        }
        looksReckoned("26, a hundred days with games", fest, games);
        games[0][2] = 2 - games[0][2];
        CHECK.is("19, the first one of a hundred", fest.correct(0, '1'), '0');
        looksReckoned("19, a hundred days anew", fest, games);
        CHECK.is("29, rated games of a hundred days", fest.rated(0), 20);
        CHECK.is("28, as the first one of a hundred began", fest.ratingOn(9, 0), 2580);
        CHECK.is("28, as the last one of a hundred ended", fest.ratingOn(9, 100), fest.rating(9));
        CHECK.yes("43, ratings are what a hundred days make anew", fest.isSound());
    }

    private static void looksReckoned(String label, MindFest fest, int[][] games) {
        int[] ratings = {1500, 1620, 1740, 1860, 1980, 2100, 2220, 2340, 2460, 2580};
        int[] played = new int[10];
        for (int[] game : games) {
            int first = change(ratings[game[0]], ratings[game[1]], played[game[0]], game[2]);
            int second = change(ratings[game[1]], ratings[game[0]], played[game[1]], 2 - game[2]);
            ratings[game[0]] += first;
            ratings[game[1]] += second;
            played[game[0]]++;
            played[game[1]]++;
        }
        for (int player = 0; player < 10; player++) {
            CHECK.is(label + ": " + player, fest.rating(player), ratings[player]);
        }
    }

    private static int change(int own, int other, int played, int points) {
        int expected = Math.min(1000, Math.max(0, 500 + (own - other) * 5 / 4));
        int factor = played < 5 ? 40 : own >= 2400 ? 10 : 20;
        return BigDecimal.valueOf(factor * (500L * points - expected), 3).setScale(0, RoundingMode.HALF_UP).intValue();
    }

    private static void ratingsOfDays() {
        MindFest fest = Fests.ofPlayers(2);
        fest.event('t', 1, 3);
        CHECK.is("28, day 0, today", fest.ratingOn(0, 0), 1500);
        CHECK.fails("28, no such day: tomorrow", ELEMENT, () -> fest.ratingOn(0, 1));
        Fests.round(fest, 0, '1');
        CHECK.is("28, as the day began", fest.ratingOn(0, 0), 1500);
        fest.day();
        CHECK.is("28, as day 0 began", fest.ratingOn(0, 0), 1500);
        CHECK.is("28, as day 1 began", fest.ratingOn(0, 1), 1520);
        CHECK.fails("28, no such day: 2", ELEMENT, () -> fest.ratingOn(0, 2));
    }

    private static void laterPlayers() {
        MindFest fest = Fests.ofPlayers(2);
        fest.day();
        fest.day();
        CHECK.is("2, added on day 2", fest.player(1700, 5), 2);
        CHECK.is("28, the day on which one was added", fest.ratingOn(2, 2), 1700);
        CHECK.fails("28, added on a later one", ELEMENT, () -> fest.ratingOn(2, 1));
        CHECK.fails("28, added on a later one: day 0", ELEMENT, () -> fest.ratingOn(2, 0));
        CHECK.fails("28, tomorrow", ELEMENT, () -> fest.ratingOn(2, 3));
        CHECK.is("28, the others on day 0", fest.ratingOn(1, 0), 1500);
        fest.event('t', 1, 6);
        Fests.round(fest, 0, '0');
        fest.day();
        CHECK.is("28, the day after", fest.ratingOn(2, 3), fest.rating(2));
        CHECK.is("28, the day on which one was added, still", fest.ratingOn(2, 2), 1700);
        CHECK.fails("28, added on a later one, still", ELEMENT, () -> fest.ratingOn(2, 1));
    }

    private static void ratedGames() {
        MindFest fest = Fests.ofPlayers(3);
        fest.event('t', 3, 7);
        CHECK.is("29, without games", fest.rated(0), 0);
        Fests.round(fest, 0, '=');
        CHECK.is("29, those of today aside", fest.rated(0), 0);
        fest.day();
        CHECK.is("29, one", fest.rated(0) + " " + fest.rated(1), "1 1");
        CHECK.is("29, a bye is no game", fest.rated(2), 0);
        Fests.round(fest, 0, '+');
        fest.day();
        CHECK.is("29, forfeits aside", fest.rated(0) + fest.rated(1) + fest.rated(2), 2);
        Fests.round(fest, 0, '1');
        CHECK.is("29, those of today aside, others not", fest.rated(0) + fest.rated(1) + fest.rated(2), 2);
        fest.day();
        CHECK.is("29, all days", fest.rated(0) + fest.rated(1) + fest.rated(2), 4);
    }

    private static void numbersRefused() {
        for (int player : new int[]{-1, 7, 12, 32, LEAST, MOST}) {
            MIDWAY.refuse("27, no such player: " + player, INDEX, fest -> fest.rating(player));
            MIDWAY.refuse("28, no such player: " + player, INDEX, fest -> fest.ratingOn(player, 0));
            MIDWAY.refuse("28, no such player goes first: " + player, INDEX, fest -> fest.ratingOn(player, -1));
            MIDWAY.refuse("29, no such player: " + player, INDEX, fest -> fest.rated(player));
        }
        for (int day : new int[]{-1, 2, 9999, 10000, LEAST, MOST}) {
            MIDWAY.refuse("28, no such day: " + day, ELEMENT, fest -> fest.ratingOn(0, day));
        }
        FULL.refuse("27, player 12 of 12", INDEX, fest -> fest.rating(12));
        Refusals none = new Refusals(CHECK, MindFest::new);
        none.refuse("27, no such player, there being none", INDEX, fest -> fest.rating(0));
        none.refuse("29, no such player, there being none", INDEX, fest -> fest.rated(0));
    }
}
