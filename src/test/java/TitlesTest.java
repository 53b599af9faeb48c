/** Promises 30 to 36: norms, isTitled, agree, odds, suspect, lift, isBanned. */
public final class TitlesTest {
    private static final Class<IndexOutOfBoundsException> INDEX = IndexOutOfBoundsException.class;
    private static final Class<IllegalArgumentException> ARGUMENT = IllegalArgumentException.class;
    private static final Class<IllegalStateException> STATE = IllegalStateException.class;
    private static final Class<UnsupportedOperationException> SUPPORT = UnsupportedOperationException.class;
    private static final Check CHECK = new Check("TitlesTest");

    private static final int[] FOUR = {1, 2, 3, 4};
    private static final int[] WINS = {2, 2, 2, 2};

    public static void main(String[] args) {
        norm();
        normEdges();
        normByEntryRatings();
        normWithForfeits();
        titles();
        titleByOneDay();
        titleAtTwoThousand();
        titleOfALaterPlayer();
        titleLostByCorrection();
        agree();
        odds();
        suspect();
        banNeedsOdds();
        lift();
        wrongPlayers();
        CHECK.close();
    }

    /** Player 0 of land 0, four others of the ratings and lands. */
    private static MindFest field(int[] ratings, int[] lands) {
        MindFest fest = new MindFest();
        fest.player(1900, 0);
        for (int i = 0; i < ratings.length; i++) {
            fest.player(ratings[i], lands[i]);
        }
        return fest;
    }

    /** How many norms player 0 has by one event against all others. */
    private static int normsBy(int[] ratings, int[] lands, int... points) {
        MindFest fest = field(ratings, lands);
        int[] others = new int[ratings.length];
        for (int i = 0; i < others.length; i++) {
            others[i] = i + 1;
        }
        fest.close(Fests.gauntlet(fest, 0, others, points));
        return fest.norms(0);
    }

    private static void norm() {
        MindFest fest = field(new int[]{1800, 1800, 1800, 1800}, new int[]{1, 1, 0, 0});
        int event = Fests.gauntlet(fest, 0, FOUR, new int[]{2, 2, 2, 0});
        CHECK.is("an event that is not closed", fest.norms(0), 0);
        fest.close(event);
        CHECK.is("closed", fest.norms(0), 1);
        CHECK.is("of another one", fest.norms(4), 0);
        CHECK.no("one norm is no title", fest.isTitled(0));
    }

    private static void normEdges() {
        int[] high = {1800, 1800, 1800, 1800};
        int[] lands = {1, 1, 0, 0};
        CHECK.is("all won", normsBy(high, lands, 2, 2, 2, 2), 1);
        CHECK.is("5 of 8", normsBy(high, lands, 2, 2, 1, 0), 0);
        CHECK.is("6 of 8 by draws", normsBy(high, lands, 2, 2, 1, 1), 1);
        CHECK.is("one land abroad", normsBy(high, new int[]{1, 0, 0, 0}, 2, 2, 2, 2), 0);
        CHECK.is("two lands abroad", normsBy(high, new int[]{0, 0, 8, 9}, 2, 2, 2, 2), 1);
        CHECK.is("a mean below 1800", normsBy(new int[]{1800, 1799, 1800, 1800}, lands, 2, 2, 2, 2), 0);
        CHECK.is("a mean of 1800", normsBy(new int[]{1700, 1800, 1801, 1899}, lands, 2, 2, 2, 2), 1);
        CHECK.is("three games", normsBy(new int[]{1900, 1900, 1900}, new int[]{1, 1, 1}, 2, 2, 2), 0);
        int[] five = {1800, 1800, 1800, 1800, 1800};
        int[] abroad = {1, 1, 1, 1, 1, 1, 1};
        CHECK.is("6 of 10", normsBy(five, abroad, 2, 2, 2, 0, 0), 0);
        CHECK.is("7 of 10", normsBy(five, abroad, 2, 2, 2, 1, 0), 1);
        int[] seven = {1800, 1800, 1800, 1800, 1800, 1800, 1800};
        CHECK.is("9 of 14", normsBy(seven, abroad, 2, 2, 2, 2, 1, 0, 0), 0);
        CHECK.is("10 of 14", normsBy(seven, abroad, 2, 2, 2, 2, 2, 0, 0), 1);
    }

    /** The others enter with 1780, or with 1820 after a win; what they lose in the event does not count. */
    private static void normByEntryRatings() {
        MindFest fest = field(new int[]{1800, 1800, 1800, 1800}, new int[]{1, 1, 1, 1});
        int event = fest.event('t', 7, 3);
        for (int other = 1; other <= 4; other++) {
            int game = fest.pair(event);
            fest.end(game, fest.playerOf(game, true) == 0 ? '1' : '0');
            fest.day();
            fest.withdraw(event, other);
            if (other < 4) {
                fest.join(event, other + 1);
            }
        }
        CHECK.yes("all have less by now", fest.rating(1) < 1800 && fest.rating(4) < 1800);
        fest.close(event);
        CHECK.is("entered with 1800", fest.norms(0), 1);
        int again = Fests.gauntlet(fest, 0, FOUR, WINS);
        fest.close(again);
        CHECK.is("entered with less", fest.norms(0), 1);
    }

    private static void normWithForfeits() {
        int[] ratings = {1800, 1800, 1800, 1800, 100};
        int[] lands = {1, 1, 0, 0, 1};
        CHECK.is("a forfeit by the lowest is aside", normsBy(ratings, lands, 2, 2, 2, 2, 3), 1);
        CHECK.is("a loss by forfeit is aside", normsBy(ratings, lands, 2, 2, 2, 0, -1), 1);
        CHECK.is("three games and a forfeit", normsBy(new int[]{1900, 1900, 1900, 1900},
                new int[]{1, 1, 1, 1}, 2, 2, 2, 3), 0);
        CHECK.is("one abroad by forfeit", normsBy(new int[]{1800, 1800, 1800, 1800, 1800},
                new int[]{1, 0, 0, 0, 1}, 2, 2, 2, 2, 3), 0);
    }

    private static MindFest withNorms(int rating, int count) {
        MindFest fest = new MindFest();
        fest.player(rating, 0);
        for (int i = 0; i < 4; i++) {
            fest.player(1900, 1);
        }
        for (int i = 0; i < count; i++) {
            fest.close(Fests.gauntlet(fest, 0, FOUR, WINS));
        }
        return fest;
    }

    private static void titles() {
        CHECK.yes("two norms and 2000 at first", withNorms(2000, 2).isTitled(0));
        CHECK.is("two norms", withNorms(2000, 2).norms(0), 2);
        CHECK.no("one norm", withNorms(2000, 1).isTitled(0));
        CHECK.no("less than 2000", withNorms(1999, 2).isTitled(0));
        CHECK.no("no norm", Fests.ofRatings(2000).isTitled(0));
        CHECK.yes("three norms", withNorms(2000, 3).isTitled(0));
    }

    /** 1900, then eight wins of 20 on a day; seven losses on a later day do not take the title away. */
    private static void titleByOneDay() {
        MindFest fest = withNorms(1900, 2);
        CHECK.no("1900", fest.isTitled(0));
        fest.day();
        CHECK.is("2000 as the day ended", fest.rating(0), 2060);
        CHECK.yes("titled", fest.isTitled(0));
        for (int i = 0; i < 7; i++) {
            fest.player(1000, 5);
        }
        Fests.gauntlet(fest, 0, new int[]{5, 6, 7, 8, 9, 10, 11}, new int[]{0, 0, 0, 0, 0, 0, 0});
        fest.day();
        CHECK.is("less by now", fest.rating(0), 2060 - 7 * 20);
        CHECK.yes("titled for good", fest.isTitled(0));
    }

    /** 1800 and eight wins of 25 make 2000, and 1799 make one less. */
    private static void titleAtTwoThousand() {
        MindFest fest = withNorms(1800, 2);
        fest.day();
        CHECK.is("2000", fest.rating(0), 2000);
        CHECK.yes("titled by 2000", fest.isTitled(0));
        MindFest less = withNorms(1799, 2);
        less.day();
        CHECK.is("1999", less.rating(0), 1999);
        CHECK.no("titled by 1999", less.isTitled(0));
    }

    /** Player 4 comes from 1850 to 2026 on the second of two days with games. */
    private static void titleOfALaterPlayer() {
        MindFest fest = Fests.ofRatings(1900, 1900, 1900, 1900, 1850, 1900, 1900);
        Fests.gauntlet(fest, 5, new int[]{6}, new int[]{1});
        fest.day();
        for (int i = 0; i < 2; i++) {
            fest.close(Fests.gauntlet(fest, 4, new int[]{0, 1, 2, 3}, WINS));
        }
        CHECK.no("1850", fest.isTitled(4));
        fest.day();
        CHECK.is("2000 and more", fest.rating(4), 2026);
        CHECK.yes("titled", fest.isTitled(4));
        CHECK.no("no norms", fest.isTitled(5) || fest.isTitled(0));
    }

    /** By two norms 1980 become 1988, and by a win more 2008; when the win falls, so does the title. */
    private static void titleLostByCorrection() {
        MindFest fest = new MindFest();
        fest.player(1980, 0);
        for (int i = 0; i < 4; i++) {
            fest.player(1800, 1);
        }
        fest.player(1980, 1);
        for (int i = 0; i < 2; i++) {
            fest.close(Fests.gauntlet(fest, 0, FOUR, new int[]{2, 2, 2, 0}));
        }
        Fests.gauntlet(fest, 0, new int[]{5}, new int[]{2});
        CHECK.no("the day has not ended", fest.isTitled(0));
        fest.day();
        CHECK.is("2000 and more", fest.rating(0), 2008);
        CHECK.yes("titled", fest.isTitled(0));
        fest.correct(8, '0');
        CHECK.is("two norms", fest.norms(0), 2);
        CHECK.is("less than 2000", fest.rating(0), 1968);
        CHECK.no("not titled", fest.isTitled(0));
    }

    private static void agree() {
        MindFest fest = Fests.ofPlayers(2);
        CHECK.fails("player 2, no moves", INDEX, () -> fest.agree(2, 0, 0));
        CHECK.fails("no moves", ARGUMENT, () -> fest.agree(0, 0, 0));
        CHECK.fails("61 moves", ARGUMENT, () -> fest.agree(0, 61, 0));
        CHECK.fails("-1 agreements", ARGUMENT, () -> fest.agree(0, 5, -1));
        CHECK.fails("more than moves", ARGUMENT, () -> fest.agree(0, 5, 6));
        CHECK.is("one", fest.agree(0, 1, 1), 1);
        CHECK.is("five more", fest.agree(0, 5, 0), 6);
        CHECK.fails("55 more", STATE, () -> fest.agree(0, 55, 0));
        CHECK.fails("55 more, and 56 agreements", ARGUMENT, () -> fest.agree(0, 55, 56));
        CHECK.is("54 more", fest.agree(0, 54, 54), 60);
        CHECK.fails("one more", STATE, () -> fest.agree(0, 1, 0));
        CHECK.is("60 of another one", fest.agree(1, 60, 60), 60);
    }

    private static double oddsOf(int moves, int agreements) {
        MindFest fest = Fests.ofPlayers(1);
        fest.agree(0, moves, agreements);
        return fest.odds(0);
    }

    private static void odds() {
        MindFest fest = Fests.ofPlayers(1);
        CHECK.fails("nothing was told", ArithmeticException.class, () -> fest.odds(0));
        CHECK.is("1 of 1", oddsOf(1, 1), 0.5);
        CHECK.is("0 of 1", oddsOf(1, 0), 1.0);
        CHECK.is("2 of 3", oddsOf(3, 2), 0.5);
        CHECK.is("3 of 4", oddsOf(4, 3), 5.0 / 16);
        CHECK.is("6 of 6", oddsOf(6, 6), 1.0 / 64);
        CHECK.is("10 of 10", oddsOf(10, 10), 9.765625E-4);
        CHECK.is("0 of 60", oddsOf(60, 0), 1.0);
        CHECK.is("60 of 60", oddsOf(60, 60), 1.0 / (1L << 60));
        CHECK.is("59 of 60", oddsOf(60, 59), 61.0 / (1L << 60));
        CHECK.is("30 of 60", oddsOf(60, 30), 635593043085854200.0 / (1L << 60));
        fest.agree(0, 2, 1);
        fest.agree(0, 2, 2);
        CHECK.is("summed", fest.odds(0), 0.3125);
    }

    private static void suspect() {
        MindFest fest = Fests.ofPlayers(4);
        CHECK.fails("player 4", INDEX, () -> fest.suspect(4, 4));
        CHECK.fails("by 4", INDEX, () -> fest.suspect(0, 4));
        CHECK.fails("by -1", INDEX, () -> fest.suspect(0, -1));
        CHECK.fails("oneself", ARGUMENT, () -> fest.suspect(0, 0));
        fest.agree(0, 7, 7);
        CHECK.no("odds without eyes", fest.isBanned(0));
        CHECK.no("one", fest.suspect(0, 1));
        CHECK.fails("told", SUPPORT, () -> fest.suspect(0, 1));
        CHECK.yes("two", fest.suspect(0, 2));
        CHECK.yes("banned", fest.isBanned(0));
        CHECK.no("the other one is not", fest.isBanned(2));
        CHECK.fails("banned", SUPPORT, () -> fest.suspect(0, 3));
        CHECK.fails("banned, by oneself", ARGUMENT, () -> fest.suspect(0, 0));
        CHECK.no("by one who is banned", fest.suspect(3, 0));
    }

    private static void banNeedsOdds() {
        MindFest fest = Fests.ofPlayers(5);
        fest.suspect(0, 1);
        CHECK.no("nothing was told", fest.suspect(0, 2));
        fest.agree(0, 6, 6);
        CHECK.no("1 by 64", fest.suspect(0, 3));
        fest.agree(0, 1, 1);
        CHECK.no("looked at as eyes are told alone", fest.isBanned(0));
        CHECK.yes("1 by 128", fest.suspect(0, 4));
        MindFest edge = Fests.ofPlayers(3);
        edge.agree(1, 10, 9);
        edge.suspect(1, 0);
        CHECK.no("11 by 1024", edge.suspect(1, 2));
    }

    private static void lift() {
        MindFest fest = Fests.ofPlayers(4);
        fest.agree(0, 20, 20);
        fest.suspect(0, 1);
        CHECK.fails("not banned", SUPPORT, () -> fest.lift(0));
        fest.suspect(0, 2);
        CHECK.is("two eyes", fest.lift(0), 2);
        CHECK.no("lifted", fest.isBanned(0));
        CHECK.fails("lifted", SUPPORT, () -> fest.lift(0));
        CHECK.fails("all told is gone", ArithmeticException.class, () -> fest.odds(0));
        CHECK.no("eyes are gone", fest.suspect(0, 1));
        CHECK.is("moves are gone", fest.agree(0, 2, 1), 2);
        CHECK.is("agreements are gone", fest.odds(0), 0.75);
        fest.agree(0, 58, 58);
        CHECK.yes("banned again", fest.suspect(0, 3));
        fest.agree(3, 20, 20);
        fest.suspect(3, 0);
        fest.suspect(3, 1);
        fest.lift(3);
        CHECK.no("eyes of 0 are gone", fest.suspect(3, 0));
        MindFest three = Fests.ofPlayers(4);
        three.suspect(0, 1);
        three.suspect(0, 2);
        three.agree(0, 20, 20);
        three.suspect(0, 3);
        CHECK.is("three eyes", three.lift(0), 3);
    }

    private static void wrongPlayers() {
        MindFest fest = Fests.ofPlayers(2);
        for (int player : new int[]{-1, 2, 12, Integer.MAX_VALUE, Integer.MIN_VALUE}) {
            CHECK.fails("norms of " + player, INDEX, () -> fest.norms(player));
            CHECK.fails("isTitled of " + player, INDEX, () -> fest.isTitled(player));
            CHECK.fails("agree of " + player, INDEX, () -> fest.agree(player, 1, 1));
            CHECK.fails("odds of " + player, INDEX, () -> fest.odds(player));
            CHECK.fails("suspect of " + player, INDEX, () -> fest.suspect(player, 0));
            CHECK.fails("suspect by " + player, INDEX, () -> fest.suspect(0, player));
            CHECK.fails("lift of " + player, INDEX, () -> fest.lift(player));
            CHECK.fails("isBanned of " + player, INDEX, () -> fest.isBanned(player));
        }
    }
}
