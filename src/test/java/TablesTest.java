import java.util.NoSuchElementException;

/** Promises 21 to 24: points, tieBreak, rank, ranked. */
public final class TablesTest {
    private static final Class<IndexOutOfBoundsException> INDEX = IndexOutOfBoundsException.class;
    private static final Class<IllegalArgumentException> ARGUMENT = IllegalArgumentException.class;
    private static final Class<NoSuchElementException> ELEMENT = NoSuchElementException.class;
    private static final Check CHECK = new Check("TablesTest");

    public static void main(String[] args) {
        twoRoundsOfFour();
        gamesThatGoOn();
        byesAndTies();
        secondTieBreak();
        byEntryRatings();
        entryAsKnownThen();
        wrongCalls();
        CHECK.close();
    }

    private static void row(MindFest fest, int player, int points, int met, int beaten, int rank) {
        String who = "of player " + player;
        CHECK.is("points " + who, fest.points(0, player), points);
        CHECK.is("tie-break 1 " + who, fest.tieBreak(0, player, 1), met);
        CHECK.is("tie-break 2 " + who, fest.tieBreak(0, player, 2), beaten);
        CHECK.is("rank " + who, fest.rank(0, player), rank);
        CHECK.is("who is ranked " + rank, fest.ranked(0, rank), player);
    }

    private static void twoRoundsOfFour() {
        MindFest fest = Fests.withTable();
        row(fest, 0, 4, 2 + 1, 2 * 2 + 2 * 1, 1);
        row(fest, 1, 2, 4 + 1, 0, 2);
        row(fest, 3, 1, 1 + 4, 1, 3);
        row(fest, 2, 1, 1 + 0, 1, 4);
    }

    private static void gamesThatGoOn() {
        MindFest fest = Fests.ofPlayers(4);
        fest.event('t', 3, 15);
        fest.pair(0);
        fest.end(0, '1');
        fest.end(1, '1');
        fest.pair(0);
        fest.end(2, '=');
        row(fest, 0, 3, 0 + 3, 2 * 0 + 3, 1);
        row(fest, 2, 3, 0 + 3, 2 * 0 + 3, 2);
        row(fest, 1, 0, 3, 0, 3);
        row(fest, 3, 0, 3, 0, 4);
        fest.end(3, '+');
        fest.event('n', 1, 5);
        fest.pair(1);
        fest.end(4, '1');
        fest.pair(0);
        CHECK.is("0 and 3 play, and 1 and 2", fest.playerOf(5, true) + fest.playerOf(5, false), 3);
        row(fest, 0, 3, 2 + 3, 2 * 2 + 3, 1);
        row(fest, 2, 3, 0 + 3, 2 * 0 + 3, 2);
        row(fest, 1, 2, 3 + 1, 0, 3);
        row(fest, 3, 0, 3, 0, 4);
    }

    /** A bye counts own points, halved and cut, again after each game. */
    private static void byesAndTies() {
        MindFest fest = Fests.ofPlayers(3);
        fest.event('t', 3, 7);
        fest.pair(0);
        row(fest, 2, 2, 1, 0, 1);
        fest.end(0, '=');
        row(fest, 2, 2, 1, 0, 1);
        row(fest, 0, 1, 1, 1, 2);
        row(fest, 1, 1, 1, 1, 3);
        fest.pair(0);
        CHECK.is("the second bye", fest.bye(0, 1), 1);
        fest.end(1, '1');
        CHECK.is("who won", fest.playerOf(1, true), 2);
        row(fest, 2, 4, 1 + 4 / 2, 2 * 1, 1);
        row(fest, 1, 3, 1 + 3 / 2, 1, 2);
        row(fest, 0, 1, 3 + 4, 3, 3);
    }

    /** Players 1 and 2 are alike in points and met, and 2 entered with more: what was beaten parts them. */
    private static void secondTieBreak() {
        MindFest fest = Fests.ofRatings(1500, 1500, 1600, 1500);
        fest.event('t', 3, 7);
        fest.pair(0);
        fest.end(0, '0');
        fest.withdraw(0, 1);
        fest.withdraw(0, 2);
        fest.join(0, 3);
        fest.pair(0);
        fest.end(1, '=');
        row(fest, 1, 2, 1, 2, 1);
        row(fest, 2, 2, 1, 0, 2);
        row(fest, 0, 1, 2 + 1, 1, 3);
        row(fest, 3, 1, 1, 1, 4);
    }

    private static void byEntryRatings() {
        MindFest fest = Fests.ofRatings(1500, 1700, 1500, 1700);
        fest.event('t', 3, 15);
        row(fest, 1, 0, 0, 0, 1);
        row(fest, 3, 0, 0, 0, 2);
        row(fest, 0, 0, 0, 0, 3);
        row(fest, 2, 0, 0, 0, 4);
    }

    private static void entryAsKnownThen() {
        MindFest fest = Fests.ofPlayers(3);
        fest.event('n', 1, 3);
        fest.pair(0);
        fest.end(0, '0');
        fest.day();
        fest.event('t', 1, 3);
        fest.event('t', 1, 5);
        fest.join(2, 1);
        CHECK.is("who entered with more", fest.ranked(1, 1), 1);
        fest.correct(0, '1');
        CHECK.is("less by now", fest.rating(1), 1480);
        CHECK.is("as it was known then", fest.ranked(1, 1), 1);
        CHECK.is("who joined, as it was known then", fest.ranked(2, 1), 1);
        fest.event('t', 1, 3);
        CHECK.is("as it is known now", fest.ranked(3, 1), 0);
    }

    private static void wrongCalls() {
        MindFest fest = Fests.ofPlayers(3);
        fest.event('t', 3, 3);
        for (int event : new int[]{-1, 1, 4, Integer.MAX_VALUE}) {
            CHECK.fails("points of event " + event, INDEX, () -> fest.points(event, 0));
            CHECK.fails("tieBreak of event " + event, INDEX, () -> fest.tieBreak(event, 0, 0));
            CHECK.fails("rank of event " + event, INDEX, () -> fest.rank(event, 0));
            CHECK.fails("ranked of event " + event, INDEX, () -> fest.ranked(event, 0));
        }
        for (int player : new int[]{-1, 3, 12, Integer.MIN_VALUE}) {
            CHECK.fails("points of player " + player, INDEX, () -> fest.points(0, player));
            CHECK.fails("tieBreak of player " + player, INDEX, () -> fest.tieBreak(0, player, 0));
            CHECK.fails("rank of player " + player, INDEX, () -> fest.rank(0, player));
        }
        CHECK.fails("points of one who is not in it", ELEMENT, () -> fest.points(0, 2));
        CHECK.fails("tieBreak of one who is not in it", ELEMENT, () -> fest.tieBreak(0, 2, 1));
        CHECK.fails("rank of one who is not in it", ELEMENT, () -> fest.rank(0, 2));
        CHECK.fails("tie-break 0", ARGUMENT, () -> fest.tieBreak(0, 0, 0));
        CHECK.fails("tie-break 3 of one who is not in it", ARGUMENT, () -> fest.tieBreak(0, 2, 3));
        CHECK.fails("rank 0", ELEMENT, () -> fest.ranked(0, 0));
        CHECK.fails("rank 3", ELEMENT, () -> fest.ranked(0, 3));
        CHECK.fails("rank -1", ELEMENT, () -> fest.ranked(0, -1));
    }
}
