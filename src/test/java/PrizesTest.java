import java.util.NoSuchElementException;

/** Promises 37 to 43: mark, overall, prize, share, overShare, checksum, isSound. */
public final class PrizesTest {
    private static final Class<IndexOutOfBoundsException> INDEX = IndexOutOfBoundsException.class;
    private static final Class<IllegalArgumentException> ARGUMENT = IllegalArgumentException.class;
    private static final Class<IllegalStateException> STATE = IllegalStateException.class;
    private static final Class<UnsupportedOperationException> SUPPORT = UnsupportedOperationException.class;
    private static final Class<NoSuchElementException> ELEMENT = NoSuchElementException.class;
    private static final Check CHECK = new Check("PrizesTest");

    public static void main(String[] args) {
        marks();
        marksOfSeveralEvents();
        overall();
        prize();
        asManyAsPlayers();
        sharesOfUnlikePoints();
        sharesOfLikePoints();
        sharesOfMixedPoints();
        overShare();
        checksum();
        isSound();
        wrongNumbers();
        CHECK.close();
    }

    private static void marks() {
        MindFest fest = Fests.withTable();
        CHECK.is("an event that is not closed", fest.mark(0), 0);
        fest.close(0);
        CHECK.is("three of three behind", fest.mark(0), 1000);
        CHECK.is("two of three behind, cut", fest.mark(1), 666);
        CHECK.is("one of three behind", fest.mark(3), 333);
        CHECK.is("nobody behind", fest.mark(2), 0);
        MindFest late = Fests.withTable();
        late.withdraw(0, 1);
        late.close(0);
        CHECK.is("who withdrew", late.mark(1), 0);
        CHECK.is("who withdrew counts as behind", late.mark(0), 1000);
        CHECK.is("who withdrew counts as a player", late.mark(3), 333);
    }

    /** Each event is cut by itself: twice 666, and not 1333. */
    private static void marksOfSeveralEvents() {
        MindFest fest = Fests.ofPlayers(5);
        for (int event = 0; event < 4; event++) {
            fest.event('n', 1, 15);
        }
        fest.close(0);
        fest.close(1);
        CHECK.is("two events", fest.mark(1), 666 + 666);
        CHECK.is("not entered", fest.mark(4), 0);
        fest.withdraw(2, 1);
        fest.close(2);
        CHECK.is("a third, withdrawn from", fest.mark(1), 666 + 666);
        CHECK.is("a third", fest.mark(2), 333 + 333 + 333);
    }

    private static void overall() {
        MindFest fest = Fests.ofPlayers(5);
        CHECK.is("all alike", fest.overall(4), 1);
        fest.event('n', 1, 7);
        fest.event('n', 1, 3 << 3);
        fest.close(0);
        fest.close(1);
        String ranks = "";
        for (int player = 0; player < 5; player++) {
            ranks += fest.overall(player);
        }
        CHECK.is("1000, 500, 0, 1000, 0", ranks, "13414");
    }

    private static void prize() {
        MindFest fest = Fests.ofPlayers(8);
        fest.event('t', 1, 255);
        CHECK.fails("event 1", INDEX, () -> fest.prize(1, -1));
        CHECK.fails("-1", ARGUMENT, () -> fest.prize(0, -1));
        CHECK.fails("100001", ARGUMENT, () -> fest.prize(0, 100001));
        CHECK.fails("not closed", SUPPORT, () -> fest.prize(0, 100));
        CHECK.is("no prize yet", fest.share(0, 0), 0);
        fest.close(0);
        CHECK.is("0", fest.prize(0, 0), 1);
        CHECK.is("100000", fest.prize(0, 100000), 2);
        for (int i = 3; i <= 6; i++) {
            CHECK.is("prize " + i, fest.prize(0, 8), i);
        }
        CHECK.fails("a seventh", STATE, () -> fest.prize(0, 8));
        CHECK.fails("a seventh of -1", ARGUMENT, () -> fest.prize(0, -1));
    }

    private static void asManyAsPlayers() {
        MindFest fest = Fests.ofPlayers(3);
        fest.event('t', 1, 7);
        fest.withdraw(0, 0);
        fest.close(0);
        fest.prize(0, 8);
        fest.prize(0, 8);
        CHECK.is("as many as players, one of whom withdrew", fest.prize(0, 8), 3);
        CHECK.fails("more than players", STATE, () -> fest.prize(0, 8));
    }

    private static String shares(MindFest fest, int event, int players) {
        String shares = "";
        for (int player = 0; player < players; player++) {
            shares += fest.share(event, player) + " ";
        }
        return shares;
    }

    /** The ranks are 0, 1, 3 and 2, of whom 3 and 2 have like points. */
    private static void sharesOfUnlikePoints() {
        MindFest fest = Fests.withTable();
        fest.close(0);
        fest.prize(0, 1001);
        fest.prize(0, 501);
        CHECK.is("each one its own", shares(fest, 0, 4), "1001 501 0 0 ");
        fest.prize(0, 101);
        CHECK.is("50 and 26 of 51, and 25 of 51", shares(fest, 0, 4), "1001 501 25 76 ");
        fest.prize(0, 11);
        CHECK.is("50 and 29 of 57, and 5 and 28", shares(fest, 0, 4), "1001 501 33 79 ");
        CHECK.yes("sound", fest.isSound());
    }

    private static void sharesOfLikePoints() {
        MindFest fest = Fests.ofPlayers(3);
        fest.event('t', 1, 7);
        fest.close(0);
        fest.prize(0, 101);
        CHECK.is("50, and 51 by three", shares(fest, 0, 3), "67 17 17 ");
        fest.prize(0, 51);
        CHECK.is("50 and 25, and 77 by three", shares(fest, 0, 3), "76 51 25 ");
        fest.prize(0, 0);
        CHECK.is("and nothing", shares(fest, 0, 3), "76 51 25 ");
        CHECK.yes("sound", fest.isSound());
    }

    /** Two who won, two who lost: 3 prizes, the second one's half is split among the first two alone. */
    private static void sharesOfMixedPoints() {
        MindFest fest = Fests.ofPlayers(4);
        fest.event('t', 1, 15);
        fest.pair(0);
        fest.end(0, '0');
        fest.end(1, '0');
        fest.close(0);
        CHECK.is("the first rank", fest.ranked(0, 1), 1);
        fest.prize(0, 30);
        fest.prize(0, 21);
        fest.prize(0, 9);
        CHECK.is("15 and 13, 10 and 13; 4 and 3, 2", shares(fest, 0, 4), "7 28 2 23 ");
    }

    private static void overShare() {
        MindFest fest = Fests.ofPlayers(6);
        fest.event('t', 2, 63);
        CHECK.fails("no games", ArithmeticException.class, fest::overShare);
        fest.pair(0);
        CHECK.is("none", fest.overShare(), 0.0f);
        fest.end(0, '+');
        CHECK.is("one of three", fest.overShare(), 1.0f / 3.0f);
        fest.end(1, '=');
        CHECK.is("two of three", fest.overShare(), 2.0f / 3.0f);
        fest.end(2, '0');
        CHECK.is("all", fest.overShare(), 1.0f);
    }

    private static long sum(int... numbers) {
        long sum = 7;
        for (int number : numbers) {
            sum = 31 * sum + number;
        }
        return sum;
    }

    private static void checksum() {
        MindFest fest = Fests.ofPlayers(3);
        CHECK.is("players", fest.checksum(), sum(1500, 1500, 1500));
        fest.event('t', 2, 6);
        CHECK.is("an event", fest.checksum(), sum(1500, 1500, 1500, 0, 0));
        fest.pair(0);
        CHECK.is("a game", fest.checksum(), sum(1500, 1500, 1500, '*', 0, 0));
        fest.end(0, '0');
        CHECK.is("its result", fest.checksum(), sum(1500, 1500, 1500, '0', 0, 2));
        fest.day();
        fest.event('n', 2, 5);
        fest.withdraw(0, 1);
        CHECK.is("ratings and one who withdrew", fest.checksum(), sum(1500, 1480, 1520, '0', 0, 2, 0, 0));
    }

    private static void isSound() {
        MindFest fest = Fests.ofPlayers(2);
        fest.event('t', 3, 3);
        fest.pair(0);
        fest.end(0, '+');
        fest.pair(0);
        CHECK.yes("after a forfeit", fest.isSound());
        fest.correct(0, '1');
        CHECK.no("met twice, one game goes on", fest.isSound());
        fest.end(1, '=');
        CHECK.no("met twice", fest.isSound());
        fest.correct(0, '-');
        CHECK.yes("by forfeit again", fest.isSound());
        fest.day();
        fest.correct(1, '1');
        CHECK.yes("ratings reckoned anew", fest.isSound());
        MindFest both = Fests.ofPlayers(2);
        both.event('t', 1, 3);
        both.event('t', 1, 3);
        both.pair(0);
        both.pair(1);
        CHECK.yes("met in two events", both.isSound());
    }

    private static void wrongNumbers() {
        MindFest fest = Fests.ofPlayers(3);
        fest.event('t', 1, 3);
        for (int player : new int[]{-1, 3, 12, Integer.MAX_VALUE, Integer.MIN_VALUE}) {
            CHECK.fails("mark of " + player, INDEX, () -> fest.mark(player));
            CHECK.fails("overall of " + player, INDEX, () -> fest.overall(player));
            CHECK.fails("share of " + player, INDEX, () -> fest.share(0, player));
        }
        for (int event : new int[]{-1, 1, 4, Integer.MAX_VALUE, Integer.MIN_VALUE}) {
            CHECK.fails("share in " + event, INDEX, () -> fest.share(event, 0));
            CHECK.fails("prize of " + event, INDEX, () -> fest.prize(event, 0));
        }
        CHECK.fails("share of one who is not in it", ELEMENT, () -> fest.share(0, 2));
    }
}
