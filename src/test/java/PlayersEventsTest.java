/** Promises 1 to 7: a new object, player, event, clock, join, withdraw, close. */
public final class PlayersEventsTest {
    private static final Class<IndexOutOfBoundsException> INDEX = IndexOutOfBoundsException.class;
    private static final Class<IllegalArgumentException> ARGUMENT = IllegalArgumentException.class;
    private static final Class<IllegalStateException> STATE = IllegalStateException.class;
    private static final Class<UnsupportedOperationException> SUPPORT = UnsupportedOperationException.class;
    private static final Check CHECK = new Check("PlayersEventsTest");

    public static void main(String[] args) {
        newObject();
        player();
        event();
        clock();
        clockBeforeAndAfter();
        join();
        joinFull();
        withdraw();
        close();
        CHECK.close();
    }

    private static void newObject() {
        MindFest fest = new MindFest();
        CHECK.is("checksum of nothing", fest.checksum(), 7L);
        CHECK.yes("isSound of nothing", fest.isSound());
        CHECK.fails("rating(0) of nobody", INDEX, () -> fest.rating(0));
        CHECK.fails("rounds(0) of nothing", INDEX, () -> fest.rounds(0));
        CHECK.fails("result(0) of nothing", INDEX, () -> fest.result(0));
        CHECK.is("the day after the first one", fest.day(), 1);
    }

    private static void player() {
        MindFest fest = new MindFest();
        CHECK.is("the lowest", fest.player(100, 0), 0);
        CHECK.is("the highest", fest.player(3000, 9), 1);
        CHECK.is("rating(0)", fest.rating(0), 100);
        CHECK.is("rating(1)", fest.rating(1), 3000);
        CHECK.fails("rating 99", ARGUMENT, () -> fest.player(99, 0));
        CHECK.fails("rating 3001", ARGUMENT, () -> fest.player(3001, 0));
        CHECK.fails("land -1", ARGUMENT, () -> fest.player(1500, -1));
        CHECK.fails("land 10", ARGUMENT, () -> fest.player(1500, 10));
        for (int i = 2; i < 12; i++) {
            CHECK.is("player " + i, fest.player(1500, 3), i);
        }
        CHECK.fails("a 13th", STATE, () -> fest.player(1500, 3));
        CHECK.fails("a 13th of no rating", ARGUMENT, () -> fest.player(99, 3));
        CHECK.fails("player 12", INDEX, () -> fest.rating(12));
    }

    private static void event() {
        MindFest fest = Fests.ofPlayers(11);
        CHECK.fails("game x", ARGUMENT, () -> fest.event('x', 1, 3));
        CHECK.fails("game T", ARGUMENT, () -> fest.event('T', 1, 3));
        CHECK.fails("0 rounds", ARGUMENT, () -> fest.event('t', 0, 3));
        CHECK.fails("8 rounds", ARGUMENT, () -> fest.event('t', 8, 3));
        CHECK.fails("nobody", ARGUMENT, () -> fest.event('t', 1, 0));
        CHECK.fails("one player", ARGUMENT, () -> fest.event('t', 1, 1 << 4));
        CHECK.fails("11 players", ARGUMENT, () -> fest.event('t', 1, 2047));
        CHECK.fails("player 11", ARGUMENT, () -> fest.event('t', 1, 1 << 11 | 3));
        CHECK.fails("bit 31", ARGUMENT, () -> fest.event('t', 1, Integer.MIN_VALUE | 3));
        CHECK.fails("all bits", ARGUMENT, () -> fest.event('t', 1, -1));
        CHECK.is("10 players, 7 rounds", fest.event('t', 7, 1023), 0);
        CHECK.is("2 players, 1 round", fest.event('n', 1, 1 << 10 | 1), 1);
        CHECK.is("a third", fest.event('n', 2, 7), 2);
        CHECK.is("a fourth", fest.event('t', 2, 7), 3);
        CHECK.fails("a fifth", STATE, () -> fest.event('t', 2, 7));
        CHECK.fails("a fifth of one", ARGUMENT, () -> fest.event('t', 2, 1));
        CHECK.is("points of one who is in it", fest.points(1, 10), 0);
        CHECK.fails("points of one who is not", java.util.NoSuchElementException.class, () -> fest.points(1, 1));
        CHECK.fails("an event without players", ARGUMENT, () -> new MindFest().event('t', 1, 3));
    }

    private static void clock() {
        MindFest fest = Fests.ofPlayers(2);
        fest.event('t', 2, 3);
        CHECK.fails("event -1", INDEX, () -> fest.clock(-1, 'd', 20, 5, 1));
        CHECK.fails("event 1, no such kind", INDEX, () -> fest.clock(1, 'x', 20, 5, 1));
        CHECK.fails("kind x", ARGUMENT, () -> fest.clock(0, 'x', 20, 5, 1));
        CHECK.fails("base 9", ARGUMENT, () -> fest.clock(0, 'd', 9, 5, 1));
        CHECK.fails("base 601", ARGUMENT, () -> fest.clock(0, 'd', 601, 5, 1));
        CHECK.fails("extra 0", ARGUMENT, () -> fest.clock(0, 'i', 20, 0, 1));
        CHECK.fails("extra 61", ARGUMENT, () -> fest.clock(0, 'i', 20, 61, 1));
        CHECK.fails("no periods", ARGUMENT, () -> fest.clock(0, 'b', 20, 5, 0));
        CHECK.fails("6 periods", ARGUMENT, () -> fest.clock(0, 'b', 20, 5, 6));
        CHECK.is("the first kind", fest.clock(0, 'd', 10, 1, 0), 'i');
        CHECK.is("periods of no meaning", fest.clock(0, 'i', 600, 60, 77), 'd');
        CHECK.is("one period", fest.clock(0, 'b', 10, 1, 1), 'i');
        CHECK.is("5 periods", fest.clock(0, 'b', 600, 60, 5), 'b');
        fest.pair(0);
        CHECK.is("the base of the clock set", fest.time(0, true), 600);
        CHECK.is("the periods of the clock set", fest.periods(0, false), 5);
        CHECK.fails("with games", SUPPORT, () -> fest.clock(0, 'd', 20, 5, 1));
        CHECK.fails("with games and a wrong number", ARGUMENT, () -> fest.clock(0, 'd', 9, 5, 1));
    }

    private static void clockBeforeAndAfter() {
        MindFest fest = Fests.ofPlayers(2);
        fest.event('t', 2, 3);
        fest.pair(0);
        CHECK.is("the base at first", fest.time(0, false), 300);
        CHECK.is("no periods at first", fest.periods(0, false), 0);
        fest.move(0, 4, 4);
        CHECK.is("the extra at first", fest.time(0, true), 306);
        MindFest other = Fests.ofPlayers(2);
        other.event('t', 2, 3);
        other.close(0);
        CHECK.is("a closed event without games", other.clock(0, 'd', 20, 5, 1), 'i');
    }

    private static void join() {
        MindFest fest = Fests.ofPlayers(5);
        fest.event('t', 2, 3);
        CHECK.fails("event 1", INDEX, () -> fest.join(1, 2));
        CHECK.fails("player 5", INDEX, () -> fest.join(0, 5));
        CHECK.fails("player -1", INDEX, () -> fest.join(0, -1));
        CHECK.fails("one who is in it", SUPPORT, () -> fest.join(0, 1));
        CHECK.is("a third one", fest.join(0, 2), 3);
        CHECK.is("the third withdraws", fest.withdraw(0, 2), 2);
        CHECK.fails("the third again", SUPPORT, () -> fest.join(0, 2));
        fest.pair(0);
        CHECK.is("while a game goes on", fest.join(0, 3), 4);
        fest.end(0, '1');
        fest.pair(0);
        CHECK.fails("all rounds are paired", SUPPORT, () -> fest.join(0, 4));
        fest.event('t', 2, 3);
        fest.close(1);
        CHECK.fails("a closed event", SUPPORT, () -> fest.join(1, 4));
    }

    private static void joinFull() {
        MindFest fest = Fests.ofPlayers(12);
        fest.event('t', 2, 511);
        CHECK.is("a tenth", fest.join(0, 9), 10);
        CHECK.fails("an eleventh", STATE, () -> fest.join(0, 10));
        CHECK.fails("the tenth again", SUPPORT, () -> fest.join(0, 9));
        CHECK.is("the first withdraws", fest.withdraw(0, 0), 9);
        CHECK.fails("who withdrew is still in it", STATE, () -> fest.join(0, 10));
        fest.event('n', 1, 3 << 10 | 1);
        CHECK.is("the twelfth withdraws", fest.withdraw(1, 11), 2);
        fest.close(0);
        CHECK.fails("full and closed", SUPPORT, () -> fest.join(0, 10));
    }

    private static void withdraw() {
        MindFest fest = Fests.ofPlayers(4);
        fest.event('t', 3, 7);
        CHECK.fails("event -1", INDEX, () -> fest.withdraw(-1, 0));
        CHECK.fails("player 4", INDEX, () -> fest.withdraw(0, 4));
        CHECK.fails("one who is not in it", SUPPORT, () -> fest.withdraw(0, 3));
        CHECK.is("the first", fest.withdraw(0, 0), 2);
        CHECK.fails("the first again", SUPPORT, () -> fest.withdraw(0, 0));
        fest.pair(0);
        CHECK.is("who withdrew is not paired", fest.playerOf(0, true), 1);
        CHECK.is("who withdrew is ranked", fest.rank(0, 0), 1);
        CHECK.is("while a game goes on", fest.withdraw(0, 1), 1);
        CHECK.is("the game of who withdrew", fest.end(0, '1'), 0);
        CHECK.is("points of who withdrew", fest.points(0, 1), 2);
        fest.close(0);
        CHECK.fails("a closed event", SUPPORT, () -> fest.withdraw(0, 2));
    }

    private static void close() {
        MindFest fest = Fests.ofRatings(1500, 1600, 1600);
        fest.event('t', 3, 7);
        CHECK.fails("event 1", INDEX, () -> fest.close(1));
        fest.pair(0);
        CHECK.fails("a game goes on", SUPPORT, () -> fest.close(0));
        fest.end(0, '-');
        CHECK.is("the first rank", fest.close(0), 1);
        CHECK.fails("twice", SUPPORT, () -> fest.close(0));
        CHECK.fails("a closed event is not paired", SUPPORT, () -> fest.pair(0));
        fest.event('n', 1, 7);
        CHECK.is("the first rank without games", fest.close(1), 1);
    }
}
