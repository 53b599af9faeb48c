import java.util.NoSuchElementException;

/** The bounds that promises 21 to 24 name: points, tieBreak, rank, ranked. */
public final class TablesBoundsTest {
    private static final Class<IndexOutOfBoundsException> INDEX = IndexOutOfBoundsException.class;
    private static final Class<IllegalArgumentException> ARGUMENT = IllegalArgumentException.class;
    private static final Class<NoSuchElementException> ELEMENT = NoSuchElementException.class;
    private static final int LEAST = Integer.MIN_VALUE;
    private static final int MOST = Integer.MAX_VALUE;
    private static final Check CHECK = new Check("TablesBoundsTest");
    private static final Refusals MIDWAY = new Refusals(CHECK, Fests::midway);
    private static final Refusals FULL = new Refusals(CHECK, Fests::full);

    public static void main(String[] args) {
        withoutGames();
        mostPoints();
        pointsOfByes();
        pointsWhileGamesGoOn();
        ownPointsHalved();
        forfeitsOwnPoints();
        beatenAndDrawn();
        parting();
        partedByMet();
        partedByBeaten();
        partedByEntry();
        thoseWhoWithdrew();
        ranksOfTen();
        numbersRefused();
        notInIt();
        whichRefused();
        ranksRefused();
        CHECK.close();
    }

    private static String row(MindFest fest, int event, int player) {
        return fest.points(event, player) + " " + fest.tieBreak(event, player, 1) + " "
                + fest.tieBreak(event, player, 2) + " " + fest.rank(event, player);
    }

    private static String order(MindFest fest, int event, int size) {
        String order = "";
        for (int rank = 1; rank <= size; rank++) {
            order += fest.ranked(event, rank) + " ";
        }
        return order;
    }

    private static void withoutGames() {
        MindFest fest = Fests.ofPlayers(12);
        fest.event('t', 7, 3 << 10);
        CHECK.is("21, without games: 0", row(fest, 0, 10), "0 0 0 1");
        CHECK.is("24, without games: by numbers", order(fest, 0, 2), "10 11 ");
    }

    /** Seven rounds are won, six by forfeit over again and the last one on the board. */
    private static void mostPoints() {
        MindFest fest = Fests.ofPlayers(2);
        fest.event('t', 7, 3);
        for (int round = 0; round < 7; round++) {
            int game = fest.pair(0);
            boolean isFirst = fest.playerOf(game, true) == 0;
            fest.end(game, round == 6 ? isFirst ? '1' : '0' : isFirst ? '+' : '-');
        }
        CHECK.is("21, 2 points, also by forfeit: the most", row(fest, 0, 0), "14 42 0 1");
        CHECK.is("21, none of seven", row(fest, 0, 1), "0 14 0 2");
    }

    private static void pointsOfByes() {
        MindFest fest = Fests.ofPlayers(3);
        fest.event('t', 3, 7);
        fest.pair(0);
        CHECK.is("21, a bye 2, while games go on", row(fest, 0, 2), "2 1 0 1");
        fest.end(0, '1');
        CHECK.is("22, a bye counts own points, halved: 2", row(fest, 0, 2), "2 1 0 1");
        CHECK.is("22, met one who has 0", row(fest, 0, 0), "2 0 0 2");
        CHECK.is("22, met one who has 2", row(fest, 0, 1), "0 2 0 3");
    }

    private static void pointsWhileGamesGoOn() {
        MindFest fest = Fests.ofPlayers(4);
        fest.event('t', 3, 15);
        Fests.round(fest, 0, '=');
        fest.pair(0);
        CHECK.is("22, games that go on nothing: met", row(fest, 0, 0), "1 1 1 1");
        CHECK.is("22, games that go on nothing: other", row(fest, 0, 3), "1 1 1 4");
        fest.end(2, '1');
        CHECK.is("22, a game that is over", row(fest, 0, 3), "3 2 3 1");
        CHECK.is("22, a game that was lost", row(fest, 0, 0), "1 4 1 2");
        CHECK.is("22, those of a game that goes on", row(fest, 0, 1), "1 1 1 4");
    }

    /** A bye and a draw make 3 points, which are halved and cut to 1; a bye and a win make 4, halved to 2. */
    private static void ownPointsHalved() {
        MindFest odd = Fests.ofPlayers(3);
        odd.event('t', 3, 7);
        Fests.round(odd, 0, '=');
        odd.pair(0);
        CHECK.is("22, halved and cut: 3 by the bye of round 1", odd.bye(0, 1), 1);
        CHECK.is("22, halved and cut: 3, and 1 of who was met", row(odd, 0, 1), "3 2 1 1");
        odd.end(1, '0');
        CHECK.is("22, halved: 2, and 3 of who was met", row(odd, 0, 2), "2 4 0 3");
        CHECK.is("22, 3 and 2 of those met", row(odd, 0, 0), "3 5 7 1");
        MindFest even = Fests.ofPlayers(3);
        even.event('t', 3, 7);
        Fests.round(even, 0, '0');
        even.pair(0);
        CHECK.is("22, who had the bye of round 1", even.bye(0, 1), 0);
        CHECK.is("22, the others play", Fests.pairOf(even, 1), "1-2");
        even.end(1, '0');
        CHECK.is("22, halved: 4, and 2 of who was met", row(even, 0, 2), "4 4 4 1");
    }

    private static void forfeitsOwnPoints() {
        for (char result : new char[]{'+', '-'}) {
            MindFest fest = Fests.ofPlayers(2);
            fest.event('t', 3, 3);
            Fests.round(fest, 0, result);
            int winner = result == '+' ? 0 : 1;
            CHECK.is("22, games by forfeit own points, halved: won", row(fest, 0, winner), "2 1 0 1");
            CHECK.is("22, games by forfeit own points, halved: lost", row(fest, 0, 1 - winner), "0 0 0 2");
        }
        MindFest fest = Fests.ofPlayers(2);
        fest.event('t', 4, 3);
        Fests.round(fest, 0, '+');
        int game = fest.pair(0);
        fest.end(game, '=');
        CHECK.is("22, halved and cut: 3, and 1 of who was met", row(fest, 0, 0), "3 2 1 1");
        CHECK.is("22, halved and cut: 1, and 3 of who was met", row(fest, 0, 1), "1 3 3 2");
    }

    private static void beatenAndDrawn() {
        MindFest fest = Fests.withTable();
        CHECK.is("22, twice the points of those beaten: 2 and 1", row(fest, 0, 0), "4 3 6 1");
        CHECK.is("22, forfeits aside: won", row(fest, 0, 1), "2 5 0 2");
        CHECK.is("22, once of those drawn with, not of those lost to", row(fest, 0, 3), "1 5 1 3");
        CHECK.is("22, forfeits aside: lost", row(fest, 0, 2), "1 1 1 4");
    }

    private static void parting() {
        MindFest fest = Fests.ofRatings(3000, 100, 3000, 100);
        fest.event('t', 1, 15);
        fest.pair(0);
        fest.end(0, '0');
        fest.end(1, '=');
        CHECK.is("23, points go ahead of ratings", order(fest, 0, 4), "1 2 3 0 ");
        CHECK.is("23, the last rank", fest.rank(0, 0), 4);
    }

    /** 0 and 3 have drawn with each other and have 2; who had met the better one is ahead, though not lower. */
    private static void partedByMet() {
        MindFest fest = Fests.ofRatings(1600, 1500, 1500, 1500);
        fest.event('t', 3, 15);
        Fests.round(fest, 0, '=');
        fest.pair(0);
        fest.end(2, '=');
        fest.end(3, '0');
        CHECK.is("23, met 1 and 2", row(fest, 0, 0), "2 3 3 3");
        CHECK.is("23, met 3 and 2: ahead of more rating and the lower number", row(fest, 0, 3), "2 5 5 2");
    }

    private static void partedByBeaten() {
        MindFest fest = Fests.ofRatings(1500, 1500, 1600, 1500);
        fest.event('t', 3, 7);
        fest.pair(0);
        fest.end(0, '0');
        Fests.withdraw(fest, 0, 1, 2);
        fest.join(0, 3);
        fest.pair(0);
        fest.end(1, '=');
        CHECK.is("23, beaten counts twice: ahead of more rating", row(fest, 0, 1), "2 1 2 1");
        CHECK.is("23, a bye beats nobody", row(fest, 0, 2), "2 1 0 2");
    }

    private static void partedByEntry() {
        MindFest fest = Fests.ofRatings(1500, 1501, 1500, 3000, 100);
        fest.event('t', 1, 31);
        CHECK.is("23, more rating first, then lower numbers", order(fest, 0, 5), "3 1 0 2 4 ");
        MindFest then = Fests.ofPlayers(3);
        then.event('t', 1, 3);
        then.event('n', 1, 7);
        Fests.round(then, 0, '0');
        CHECK.is("23, at which they entered: the day has not ended", order(then, 1, 3), "0 1 2 ");
        then.day();
        CHECK.is("23, at which they entered: not by now", order(then, 1, 3), "0 1 2 ");
        then.event('n', 1, 7);
        CHECK.is("23, those who enter on the day after", order(then, 2, 3), "1 2 0 ");
        then.correct(0, '1');
        CHECK.is("23, as it was known then", order(then, 2, 3), "1 2 0 ");
        then.event('n', 1, 7);
        CHECK.is("23, as it is known after that", order(then, 3, 3), "0 2 1 ");
    }

    private static void thoseWhoWithdrew() {
        MindFest fest = Fests.ofPlayers(3);
        fest.event('t', 3, 7);
        fest.pair(0);
        fest.end(0, '1');
        fest.withdraw(0, 0);
        CHECK.is("23, those who withdrew too", row(fest, 0, 0), "2 0 0 2");
        Fests.withdraw(fest, 0, 1, 2);
        CHECK.is("24, all of whom withdrew", order(fest, 0, 3), "2 0 1 ");
        fest.player(1500, 5);
        fest.join(0, 3);
        CHECK.is("24, and who joined after that", order(fest, 0, 4), "2 0 1 3 ");
    }

    private static void ranksOfTen() {
        MindFest fest = Fests.ofPlayers(12);
        fest.event('t', 7, 1023 << 2);
        for (int rank = 1; rank <= 10; rank++) {
            CHECK.is("24, the rank, from 1", fest.ranked(0, rank), rank + 1);
            CHECK.is("23, the rank, from 1", fest.rank(0, rank + 1), rank);
        }
        CHECK.fails("24, if there is none: 0", ELEMENT, () -> fest.ranked(0, 0));
        CHECK.fails("24, if there is none: 11 of 10", ELEMENT, () -> fest.ranked(0, 11));
        MindFest two = Fests.ofPlayers(3);
        two.event('t', 7, 3);
        CHECK.fails("24, if there is none: 3 of 2", ELEMENT, () -> two.ranked(0, 3));
        two.join(0, 2);
        CHECK.is("24, 3 of 3", two.ranked(0, 3), 2);
    }

    private static void numbersRefused() {
        for (int event : new int[]{-1, 3, 4, LEAST, MOST}) {
            MIDWAY.refuse("21, no such event: " + event, INDEX, fest -> fest.points(event, 0));
            MIDWAY.refuse("22, no such event: " + event, INDEX, fest -> fest.tieBreak(event, 0, 1));
            MIDWAY.refuse("22, no such event goes first: " + event, INDEX, fest -> fest.tieBreak(event, 0, 0));
            MIDWAY.refuse("23, no such event: " + event, INDEX, fest -> fest.rank(event, 0));
            MIDWAY.refuse("24, no such event: " + event, INDEX, fest -> fest.ranked(event, 1));
            MIDWAY.refuse("24, no such event goes first: " + event, INDEX, fest -> fest.ranked(event, 0));
        }
        for (int player : new int[]{-1, 7, 12, 32, LEAST, MOST}) {
            MIDWAY.refuse("21, no such player: " + player, INDEX, fest -> fest.points(0, player));
            MIDWAY.refuse("22, no such player: " + player, INDEX, fest -> fest.tieBreak(0, player, 2));
            MIDWAY.refuse("22, no such player goes first: " + player, INDEX, fest -> fest.tieBreak(0, player, 3));
            MIDWAY.refuse("23, no such player: " + player, INDEX, fest -> fest.rank(0, player));
        }
        FULL.refuse("21, player 12 of 12", INDEX, fest -> fest.points(0, 12));
        FULL.refuse("23, event 4 of 4", INDEX, fest -> fest.rank(4, 0));
    }

    private static void notInIt() {
        for (int player : new int[]{4, 5, 6}) {
            MIDWAY.refuse("21, the player is not in it: " + player, ELEMENT, fest -> fest.points(0, player));
            MIDWAY.refuse("22, the player is not in it: " + player, ELEMENT, fest -> fest.tieBreak(0, player, 1));
            MIDWAY.refuse("22, not in it, the other one: " + player, ELEMENT, fest -> fest.tieBreak(0, player, 2));
            MIDWAY.refuse("23, the player is not in it: " + player, ELEMENT, fest -> fest.rank(0, player));
        }
        MIDWAY.refuse("21, the first player is not in it", ELEMENT, fest -> fest.points(1, 0));
        FULL.refuse("21, the last player is not in it", ELEMENT, fest -> fest.points(1, 11));
    }

    private static void whichRefused() {
        for (int which : new int[]{0, 3, -1, LEAST, MOST}) {
            MIDWAY.refuse("22, 1 or 2: " + which, ARGUMENT, fest -> fest.tieBreak(0, 0, which));
            MIDWAY.refuse("22, 1 or 2 goes ahead of not in it: " + which, ARGUMENT,
                    fest -> fest.tieBreak(0, 6, which));
        }
    }

    private static void ranksRefused() {
        for (int rank : new int[]{0, 5, -1, 10, LEAST, MOST}) {
            MIDWAY.refuse("24, if there is none: " + rank, ELEMENT, fest -> fest.ranked(0, rank));
        }
        FULL.refuse("24, if there is none: 11", ELEMENT, fest -> fest.ranked(1, 11));
        FULL.refuse("24, if there is none: 3", ELEMENT, fest -> fest.ranked(2, 3));
    }
}
