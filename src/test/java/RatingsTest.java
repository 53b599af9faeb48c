import java.util.NoSuchElementException;

/** Promises 26 to 29: day, rating, ratingOn, rated. */
public final class RatingsTest {
    private static final Class<IndexOutOfBoundsException> INDEX = IndexOutOfBoundsException.class;
    private static final Class<NoSuchElementException> ELEMENT = NoSuchElementException.class;
    private static final Check CHECK = new Check("RatingsTest");

    public static void main(String[] args) {
        oneGame();
        expectations();
        expectationWithinBounds();
        forfeitsAside();
        sumOfADay();
        lowestRating();
        factors();
        halvesAwayFromZero();
        correctedLater();
        correctedForfeit();
        ratingsOnDays();
        ratingsOnManyDays();
        ratedGames();
        wrongCalls();
        manyDays();
        CHECK.close();
    }

    /** Plays one game of two new players, and tells both ratings on the day after. */
    private static String after(int first, int second, char result) {
        MindFest fest = Fests.ofRatings(first, second);
        fest.event('t', 1, 3);
        fest.pair(0);
        fest.end(0, result);
        fest.day();
        return fest.rating(0) + " " + fest.rating(1);
    }

    private static void oneGame() {
        MindFest fest = Fests.ofPlayers(2);
        fest.event('t', 1, 3);
        fest.pair(0);
        fest.day();
        CHECK.is("a game that goes on", fest.rating(0), 1500);
        fest.end(0, '0');
        CHECK.is("while the day lasts", fest.rating(0), 1500);
        CHECK.is("rated while the day lasts", fest.rated(0), 0);
        CHECK.is("the day then", fest.day(), 2);
        CHECK.is("the first one lost", fest.rating(0), 1480);
        CHECK.is("the other one won", fest.rating(1), 1520);
        CHECK.is("once only", fest.day() * 10000 + fest.rating(1), 31520);
    }

    private static void expectations() {
        CHECK.is("a win of like ones", after(1500, 1500, '1'), "1520 1480");
        CHECK.is("a draw of like ones", after(1500, 1500, '='), "1500 1500");
        CHECK.is("200 more, a win", after(2100, 1900, '1'), "2110 1890");
        CHECK.is("200 more, a loss", after(2100, 1900, '0'), "2070 1930");
        CHECK.is("50 more, a draw: 562 and 438", after(1550, 1500, '='), "1548 1502");
        CHECK.is("10 more, a draw: 512 and 488", after(1510, 1500, '='), "1510 1500");
        CHECK.is("11 more, a draw: 513 and 487", after(1511, 1500, '='), "1510 1501");
    }

    private static void expectationWithinBounds() {
        CHECK.is("400 more, a win", after(1900, 1500, '1'), "1900 1500");
        CHECK.is("1000 more, a win", after(2500, 1500, '1'), "2500 1500");
        CHECK.is("1000 more, a draw", after(2500, 1500, '='), "2480 1520");
        CHECK.is("1000 more, a loss", after(2500, 1500, '0'), "2460 1540");
        CHECK.is("399 more, a draw: 998 and 2", after(1899, 1500, '='), "1879 1520");
    }

    private static void forfeitsAside() {
        CHECK.is("a forfeit", after(1500, 1500, '+'), "1500 1500");
        CHECK.is("a forfeit of the first", after(1500, 1500, '-'), "1500 1500");
    }

    /** Two games on one day, both by the ratings at its beginning: else the second win would bring 19. */
    private static void sumOfADay() {
        MindFest fest = Fests.ofPlayers(3);
        Fests.gauntlet(fest, 0, new int[]{1, 2}, new int[]{2, 2});
        fest.day();
        CHECK.is("twice 20", fest.rating(0), 1540);
        CHECK.is("one loss", fest.rating(1), 1480);
        CHECK.is("another loss", fest.rating(2), 1480);
        CHECK.is("rated", fest.rated(0), 2);
        MindFest both = Fests.ofPlayers(3);
        Fests.gauntlet(both, 0, new int[]{1, 2}, new int[]{2, 0});
        both.day();
        CHECK.is("a win and a loss", both.rating(0), 1500);
    }

    private static void lowestRating() {
        CHECK.is("not below 100", after(100, 110, '0'), "100 130");
        MindFest fest = Fests.ofRatings(100, 110, 110);
        Fests.gauntlet(fest, 0, new int[]{1, 2}, new int[]{0, 2});
        fest.day();
        CHECK.is("changes are summed first", fest.rating(0), 100 - 20 + 20);
    }

    /** Wins of 40 by far lower odds: 40 times 1 until 5 are rated ahead of the day, then 20, or 10 from 2400 on. */
    private static void factors() {
        MindFest fest = Fests.ofRatings(1000, 3000, 3000, 3000, 3000, 3000, 3000, 3000);
        Fests.gauntlet(fest, 0, new int[]{1, 2, 3, 4}, new int[]{2, 2, 2, 2});
        fest.day();
        CHECK.is("four of 40", fest.rating(0), 1160);
        int event = Fests.gauntlet(fest, 0, new int[]{5, 6}, new int[]{2, 2});
        fest.day();
        CHECK.is("two of 40, 4 being ahead of the day", fest.rating(0), 1240);
        fest.withdraw(event, 6);
        fest.join(event, 7);
        int game = fest.pair(event);
        fest.end(game, fest.playerOf(game, true) == 0 ? '1' : '0');
        fest.day();
        CHECK.is("one of 20", fest.rating(0), 1260);
        CHECK.is("rated", fest.rated(0), 7);
        CHECK.is("a 2400 with 5 rated games", afterFive(2400), 2400 - 10);
        CHECK.is("a 2399 with 5 rated games", afterFive(2399), 2399 - 20);
    }

    /** One wins five games that were sure to be won, then loses one that was. */
    private static int afterFive(int rating) {
        MindFest fest = Fests.ofRatings(rating, 1000, 1000, 1000, 1000, 1000, 1000);
        int event = Fests.gauntlet(fest, 0, new int[]{1, 2, 3, 4, 5}, new int[]{2, 2, 2, 2, 2});
        fest.day();
        fest.withdraw(event, 5);
        fest.join(event, 6);
        int game = fest.pair(event);
        fest.end(game, fest.playerOf(game, true) == 0 ? '0' : '1');
        fest.day();
        return fest.rating(0);
    }

    /** With the factor 20 and 20 points apart a draw changes by one half, which is rounded to 1 and -1. */
    private static void halvesAwayFromZero() {
        MindFest fest = Fests.ofRatings(1020, 3000, 3000, 3000, 3000, 3000, 1000, 3000, 3000, 3000, 3000, 3000);
        int event = Fests.gauntlet(fest, 0, new int[]{1, 2, 3, 4, 5}, new int[]{0, 0, 0, 0, 0});
        Fests.gauntlet(fest, 6, new int[]{7, 8, 9, 10, 11}, new int[]{0, 0, 0, 0, 0});
        fest.day();
        CHECK.is("sure losses change nothing", fest.rating(0) + " " + fest.rating(6), "1020 1000");
        fest.withdraw(event, 5);
        fest.join(event, 6);
        fest.end(fest.pair(event), '=');
        fest.day();
        CHECK.is("halves", fest.rating(0) + " " + fest.rating(6), "1019 1001");
    }

    private static void correctedLater() {
        MindFest fest = Fests.ofPlayers(3);
        int event = Fests.gauntlet(fest, 0, new int[]{1}, new int[]{2});
        fest.day();
        fest.withdraw(event, 1);
        fest.join(event, 2);
        int game = fest.pair(event);
        fest.end(game, fest.playerOf(game, true) == 0 ? '1' : '0');
        fest.day();
        CHECK.is("20 more, a win: 525", fest.rating(0), 1520 + 19);
        CHECK.is("a loss", fest.rating(2), 1500 - 19);
        fest.correct(0, '0');
        CHECK.is("the first day anew", fest.ratingOn(0, 1), 1480);
        CHECK.is("the second day anew: 475", fest.rating(0), 1480 + 21);
        CHECK.is("another one, who had no part in it", fest.rating(2), 1500 - 21);
        CHECK.yes("sound", fest.isSound());
    }

    private static void correctedForfeit() {
        MindFest fest = Fests.ofPlayers(2);
        fest.event('t', 1, 3);
        fest.pair(0);
        fest.end(0, '+');
        fest.day();
        fest.day();
        CHECK.is("aside", fest.rated(0), 0);
        fest.correct(0, '1');
        CHECK.is("rated on its own day", fest.ratingOn(0, 1), 1520);
        CHECK.is("not ahead of it", fest.ratingOn(0, 0), 1500);
        CHECK.is("rated", fest.rated(0), 1);
        fest.correct(0, '-');
        CHECK.is("aside again", fest.ratingOn(0, 1) + fest.rated(0), 1500);
    }

    private static void ratingsOnDays() {
        MindFest fest = Fests.ofPlayers(2);
        fest.event('t', 1, 3);
        fest.day();
        fest.pair(0);
        fest.end(0, '1');
        fest.day();
        fest.player(1700, 0);
        fest.day();
        CHECK.is("day 0", fest.ratingOn(0, 0), 1500);
        CHECK.is("day 1", fest.ratingOn(0, 1), 1500);
        CHECK.is("day 2", fest.ratingOn(0, 2), 1520);
        CHECK.is("day 3, today", fest.ratingOn(0, 3), 1520);
        CHECK.fails("day 4", ELEMENT, () -> fest.ratingOn(0, 4));
        CHECK.fails("day -1", ELEMENT, () -> fest.ratingOn(0, -1));
        CHECK.is("the day when one was added", fest.ratingOn(2, 2), 1700);
        CHECK.is("the day after", fest.ratingOn(2, 3), 1700);
        CHECK.fails("the day ahead of that", ELEMENT, () -> fest.ratingOn(2, 1));
        CHECK.fails("player 3, day -1", INDEX, () -> fest.ratingOn(3, -1));
    }

    /** Player 0 wins a game on each other day, against one who is added on that day with 1000 more. */
    private static void ratingsOnManyDays() {
        MindFest fest = Fests.ofRatings(1000, 2500);
        int event = fest.event('t', 7, 3);
        for (int round = 0; round < 4; round++) {
            int game = fest.pair(event);
            fest.end(game, fest.playerOf(game, true) == 0 ? '1' : '0');
            fest.withdraw(event, round + 1);
            fest.day();
            fest.day();
            fest.join(event, fest.player(2500, 3));
        }
        CHECK.yes("sound", fest.isSound());
        String own = "";
        for (int day = 0; day <= 8; day++) {
            own += fest.ratingOn(0, day) + " ";
        }
        CHECK.is("player 0", own, "1000 1040 1040 1080 1080 1120 1120 1160 1160 ");
        CHECK.is("player 1", fest.ratingOn(1, 0) * 10000 + fest.ratingOn(1, 8), 25002460);
        CHECK.is("player 2, as added", fest.ratingOn(2, 2), 2500);
        CHECK.is("player 2, a day after", fest.ratingOn(2, 3), 2460);
        CHECK.is("player 4, as added", fest.ratingOn(4, 6), 2500);
        CHECK.is("player 4 at last", fest.ratingOn(4, 8), 2460);
        CHECK.is("player 5 at last", fest.ratingOn(5, 8), 2500);
        CHECK.fails("player 5, too early", ELEMENT, () -> fest.ratingOn(5, 7));
        fest.correct(1, fest.playerOf(1, true) == 0 ? '-' : '+');
        CHECK.is("by forfeit", fest.ratingOn(0, 4) * 10000 + fest.ratingOn(0, 8), 10401120);
        CHECK.is("player 2, by forfeit", fest.ratingOn(2, 8), 2500);
    }

    private static void ratedGames() {
        MindFest fest = Fests.ofPlayers(4);
        Fests.gauntlet(fest, 0, new int[]{1, 2, 3}, new int[]{2, 3, 1});
        CHECK.is("those of today aside", fest.rated(0), 0);
        fest.day();
        CHECK.is("the forfeit aside", fest.rated(0), 2);
        CHECK.is("one", fest.rated(1), 1);
        CHECK.is("the forfeit alone", fest.rated(2), 0);
    }

    private static void wrongCalls() {
        MindFest fest = Fests.ofPlayers(2);
        for (int player : new int[]{-1, 2, 12, Integer.MAX_VALUE, Integer.MIN_VALUE}) {
            CHECK.fails("rating of " + player, INDEX, () -> fest.rating(player));
            CHECK.fails("ratingOn of " + player, INDEX, () -> fest.ratingOn(player, 0));
            CHECK.fails("rated of " + player, INDEX, () -> fest.rated(player));
        }
    }

    /** 512 calls come nowhere near the last day; that it has an end is looked at all the same. */
    private static void manyDays() {
        MindFest fest = Fests.ofPlayers(1);
        for (int day = 1; day <= 9999; day++) {
            if (fest.day() != day) {
                CHECK.is("day", -1, day);
            }
        }
        CHECK.fails("after the last day", IllegalStateException.class, fest::day);
        CHECK.is("the last day", fest.ratingOn(0, 9999), 1500);
        CHECK.fails("no day more", ELEMENT, () -> fest.ratingOn(0, 10000));
    }
}
