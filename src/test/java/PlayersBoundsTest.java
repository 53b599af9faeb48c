/**
 * The bounds that promises 1 to 7 name: a new object, player, event, clock, join, withdraw, close. Each label begins
 * with the words of the document that it looks at.
 */
public final class PlayersBoundsTest {
    private static final Class<IndexOutOfBoundsException> INDEX = IndexOutOfBoundsException.class;
    private static final Class<IllegalArgumentException> ARGUMENT = IllegalArgumentException.class;
    private static final Class<IllegalStateException> STATE = IllegalStateException.class;
    private static final Class<UnsupportedOperationException> SUPPORT = UnsupportedOperationException.class;
    private static final int LEAST = Integer.MIN_VALUE;
    private static final int MOST = Integer.MAX_VALUE;
    private static final Check CHECK = new Check("PlayersBoundsTest");
    private static final Refusals EMPTY = new Refusals(CHECK, MindFest::new);
    private static final Refusals MIDWAY = new Refusals(CHECK, Fests::midway);
    private static final Refusals FULL = new Refusals(CHECK, Fests::full);

    public static void main(String[] args) {
        withoutPlayersAndEvents();
        calls();
        playerNumbers();
        playerRefused();
        eventNumbers();
        eventPlayers();
        eventRefused();
        clockNumbers();
        clockAtFirst();
        clockRefused();
        joinTo();
        banned();
        joinRefused();
        withdrawTo();
        withdrawRefused();
        closeTo();
        closeRefused();
        CHECK.close();
    }

    private static void withoutPlayersAndEvents() {
        MindFest fest = new MindFest();
        CHECK.fails("1, without players: rating(0)", INDEX, () -> fest.rating(0));
        CHECK.fails("1, without events: rounds(0)", INDEX, () -> fest.rounds(0));
        CHECK.fails("1, without games: result(0)", INDEX, () -> fest.result(0));
        CHECK.is("1, without players and events: checksum", fest.checksum(), 7L);
        CHECK.yes("1, without players and events: isSound", fest.isSound());
        fest.player(1500, 0);
        CHECK.is("1, on the day 0", fest.ratingOn(0, 0), 1500);
        CHECK.fails("1, on the day 0, not 1", java.util.NoSuchElementException.class, () -> fest.ratingOn(0, 1));
        CHECK.is("1, the day after 0", fest.day(), 1);
    }

    /** The last of 512 calls is answered as the first ones are. */
    private static void calls() {
        MindFest fest = new MindFest();
        fest.player(1500, 0);
        fest.player(1500, 1);
        fest.event('t', 7, 3);
        fest.pair(0);
        fest.end(0, '1');
        for (int call = 6; call < 512; call++) {
            fest.day();
        }
        CHECK.is("at most 512 calls: the 512th", fest.ratingOn(0, 506), 1520);
    }

    private static void playerNumbers() {
        MindFest fest = new MindFest();
        CHECK.is("2, numbers from 0 on", fest.player(100, 0), 0);
        CHECK.is("2, rating 100", fest.rating(0), 100);
        CHECK.is("2, rating 3000, land 9", fest.player(3000, 9), 1);
        CHECK.is("2, rating 3000", fest.rating(1), 3000);
        CHECK.is("2, rating 100, land 9", fest.player(100, 9), 2);
        CHECK.is("2, rating 3000, land 0", fest.player(3000, 0), 3);
        CHECK.is("2, rating 101", fest.player(101, 1), 4);
        CHECK.is("2, rating 2999", fest.player(2999, 8), 5);
        for (int number = 6; number < 12; number++) {
            CHECK.is("2, at most 12 players: another", fest.player(1500, 4), number);
        }
        CHECK.is("2, the twelfth", fest.rating(11), 1500);
        CHECK.fails("2, if there are 12", STATE, () -> fest.player(1500, 4));
        CHECK.fails("2, no thirteenth", INDEX, () -> fest.rating(12));
    }

    private static void playerRefused() {
        for (int rating : new int[]{99, 3001, 0, -1, -1500, LEAST, MOST}) {
            EMPTY.refuse("2, rating: 100 to 3000: " + rating, ARGUMENT, fest -> fest.player(rating, 0));
        }
        for (int land : new int[]{-1, 10, LEAST, MOST}) {
            EMPTY.refuse("2, land: 0 to 9: " + land, ARGUMENT, fest -> fest.player(1500, land));
        }
        MIDWAY.refuse("2, rating 99 among others", ARGUMENT, fest -> fest.player(99, 3));
        FULL.refuse("2, if there are 12", STATE, fest -> fest.player(1500, 0));
        FULL.refuse("2, the rating goes ahead of 12", ARGUMENT, fest -> fest.player(3001, 0));
        FULL.refuse("2, the land goes ahead of 12", ARGUMENT, fest -> fest.player(1500, 10));
    }

    private static void eventNumbers() {
        MindFest fest = Fests.ofPlayers(12);
        CHECK.is("3, numbers from 0 on", fest.event('t', 1, 3), 0);
        CHECK.is("3, 7 rounds", fest.event('n', 7, 3), 1);
        CHECK.is("3, 6 rounds", fest.event('t', 6, 3), 2);
        CHECK.is("3, at most 4 events: the fourth", fest.event('n', 2, 3), 3);
        CHECK.fails("3, if there are 4", STATE, () -> fest.event('t', 1, 3));
        CHECK.is("3, no round is paired", fest.rounds(3), 0);
        CHECK.fails("3, no fifth", INDEX, () -> fest.rounds(4));
    }

    private static void eventPlayers() {
        MindFest fest = Fests.ofPlayers(12);
        CHECK.is("3, players: the first two", fest.event('t', 1, 3), 0);
        CHECK.is("3, players: the last two", fest.event('t', 1, 3 << 10), 1);
        CHECK.is("3, players: the first ten", fest.event('t', 1, 1023), 2);
        CHECK.is("3, players: the last ten", fest.event('t', 1, 1023 << 2), 3);
        CHECK.is("3, 2 of them: the last rank", fest.ranked(0, 2), 1);
        CHECK.is("3, the last two: the first rank", fest.ranked(1, 1), 10);
        CHECK.is("3, 10 of them: the last rank", fest.ranked(2, 10), 9);
        CHECK.is("3, the last ten: the last rank", fest.ranked(3, 10), 11);
        CHECK.is("3, the last ten: the first rank", fest.ranked(3, 1), 2);
    }

    private static void eventRefused() {
        for (char game : new char[]{'s', 'u', 'm', 'o', 'T', 'N', ' ', 0, 't' + 256, 'n' + 256, 65535}) {
            MIDWAY.refuse("3, 't' or 'n': " + (int) game, ARGUMENT, fest -> fest.event(game, 1, 3));
        }
        for (int rounds : new int[]{0, 8, -1, LEAST, MOST}) {
            MIDWAY.refuse("3, rounds: 1 to 7: " + rounds, ARGUMENT, fest -> fest.event('t', rounds, 3));
        }
        for (int players : new int[]{0, 1, 1 << 6}) {
            MIDWAY.refuse("3, 2 to 10, not fewer: " + players, ARGUMENT, fest -> fest.event('t', 1, players));
        }
        for (int players : new int[]{1 << 7 | 1, 1 << 7 | 3, 3 << 7, LEAST | 3, -1, MOST}) {
            MIDWAY.refuse("3, another player is among them: " + players, ARGUMENT,
                    fest -> fest.event('n', 1, players));
        }
        EMPTY.refuse("3, another player where there is none", ARGUMENT, fest -> fest.event('t', 1, 3));
        Refusals twelve = new Refusals(CHECK, () -> Fests.ofPlayers(12));
        twelve.refuse("3, 2 to 10, not 11", ARGUMENT, fest -> fest.event('t', 1, 2047));
        twelve.refuse("3, 2 to 10, not the last 11", ARGUMENT, fest -> fest.event('t', 1, 2047 << 1));
        twelve.refuse("3, 2 to 10, not 12", ARGUMENT, fest -> fest.event('t', 1, 4095));
        twelve.refuse("3, player 12 is another one", ARGUMENT, fest -> fest.event('t', 1, 1 << 12 | 3));
        FULL.refuse("3, if there are 4", STATE, fest -> fest.event('t', 1, 3));
        FULL.refuse("3, the game goes ahead of 4", ARGUMENT, fest -> fest.event('x', 1, 3));
        FULL.refuse("3, the rounds go ahead of 4", ARGUMENT, fest -> fest.event('t', 8, 3));
        FULL.refuse("3, another player goes ahead of 4", ARGUMENT, fest -> fest.event('t', 1, 1 << 12 | 1));
        FULL.refuse("3, one player goes ahead of 4", ARGUMENT, fest -> fest.event('t', 1, 1));
        FULL.refuse("3, 11 players go ahead of 4", ARGUMENT, fest -> fest.event('t', 1, 2047));
    }

    private static void clockNumbers() {
        MindFest fest = Fests.ofPlayers(2);
        fest.event('t', 2, 3);
        CHECK.is("4, the kind before: 'i' at first", fest.clock(0, 'd', 10, 1, 1), 'i');
        CHECK.is("4, the kind before: 'd'", fest.clock(0, 'b', 10, 1, 1), 'd');
        CHECK.is("4, the kind before: 'b'", fest.clock(0, 'i', 600, 60, 1), 'b');
        CHECK.is("4, periods of no meaning for 'd': 0", fest.clock(0, 'd', 11, 2, 0), 'i');
        CHECK.is("4, periods of no meaning for 'd': 6", fest.clock(0, 'd', 599, 59, 6), 'd');
        CHECK.is("4, periods of no meaning for 'i': least", fest.clock(0, 'i', 10, 60, LEAST), 'd');
        CHECK.is("4, periods of no meaning for 'i': most", fest.clock(0, 'i', 600, 1, MOST), 'i');
        CHECK.is("4, periods: 1", fest.clock(0, 'b', 600, 60, 1), 'i');
        CHECK.is("4, periods: 5", fest.clock(0, 'b', 10, 60, 5), 'b');
        fest.pair(0);
        CHECK.is("4, base 10", fest.time(0, true), 10);
        CHECK.is("4, periods 5", fest.periods(0, true), 5);
        fest.move(0, 4, 10 + 5 * 60 - 1);
        CHECK.is("4, extra 60", fest.periods(0, true), 1);
    }

    private static void clockAtFirst() {
        MindFest fest = Fests.ofPlayers(2);
        fest.event('t', 2, 3);
        fest.pair(0);
        CHECK.is("4, with 300 at first", fest.time(0, true), 300);
        CHECK.is("4, 'i' has no periods", fest.periods(0, true), 0);
        fest.move(0, 0, 300);
        CHECK.is("4, with 10 at first", fest.time(0, true), 10);
        MindFest wide = Fests.withGame('t', 'i', 600, 60, 1);
        CHECK.is("4, base 600", wide.time(0, false), 600);
        wide.move(0, 0, 600);
        CHECK.is("4, extra 60", wide.time(0, true), 60);
        MindFest narrow = Fests.withGame('t', 'd', 10, 1, 1);
        narrow.move(0, 0, 11);
        CHECK.is("4, base 10, extra 1", narrow.time(0, true), 0);
    }

    private static void clockRefused() {
        for (int event : new int[]{-1, 3, 4, LEAST, MOST}) {
            MIDWAY.refuse("4, no such event: " + event, INDEX, fest -> fest.clock(event, 'd', 20, 5, 1));
            MIDWAY.refuse("4, no such event goes first: " + event, INDEX, fest -> fest.clock(event, 'x', 9, 0, 0));
        }
        for (char kind : new char[]{'c', 'e', 'h', 'j', 'a', 'D', 0, 'i' + 256, 65535}) {
            MIDWAY.refuse("4, no such kind: " + (int) kind, ARGUMENT, fest -> fest.clock(2, kind, 20, 5, 1));
        }
        for (char kind : new char[]{'d', 'i', 'b'}) {
            for (int base : new int[]{9, 601, 0, -10, LEAST, MOST}) {
                MIDWAY.refuse("4, base: 10 to 600: " + base, ARGUMENT, fest -> fest.clock(2, kind, base, 5, 1));
            }
            for (int extra : new int[]{0, 61, -1, LEAST, MOST}) {
                MIDWAY.refuse("4, extra: 1 to 60: " + extra, ARGUMENT, fest -> fest.clock(2, kind, 20, extra, 1));
            }
            MIDWAY.refuse("4, if it has games", SUPPORT, fest -> fest.clock(1, kind, 20, 5, 1));
            MIDWAY.refuse("4, closed, and it has games", SUPPORT, fest -> fest.clock(0, kind, 20, 5, 1));
        }
        for (int periods : new int[]{0, 6, -1, LEAST, MOST}) {
            MIDWAY.refuse("4, periods: 1 to 5 for 'b': " + periods, ARGUMENT,
                    fest -> fest.clock(2, 'b', 20, 5, periods));
        }
        MIDWAY.refuse("4, the kind goes ahead of games", ARGUMENT, fest -> fest.clock(1, 'x', 20, 5, 1));
        MIDWAY.refuse("4, the base goes ahead of games", ARGUMENT, fest -> fest.clock(1, 'd', 9, 5, 1));
        MIDWAY.refuse("4, the extra goes ahead of games", ARGUMENT, fest -> fest.clock(1, 'i', 20, 61, 1));
        MIDWAY.refuse("4, the periods go ahead of games", ARGUMENT, fest -> fest.clock(1, 'b', 20, 5, 6));
    }

    private static void joinTo() {
        MindFest fest = Fests.ofPlayers(12);
        fest.event('t', 2, 255);
        CHECK.is("5, how many: the ninth", fest.join(0, 8), 9);
        CHECK.is("5, how many: the tenth", fest.join(0, 11), 10);
        CHECK.is("5, the last player is in it", fest.points(0, 11), 0);
        CHECK.fails("5, if it has 10", STATE, () -> fest.join(0, 9));
        MindFest late = Fests.ofPlayers(5);
        late.event('t', 2, 3);
        late.pair(0);
        CHECK.is("5, while a game goes on", late.join(0, 2), 3);
        late.end(0, '1');
        CHECK.is("5, ahead of the last round", late.join(0, 3), 4);
        late.pair(0);
        CHECK.is("5, paired from the next round on", late.playerOf(1, true) + " " + late.playerOf(1, false), "2 0");
        CHECK.fails("5, all its rounds are paired", SUPPORT, () -> late.join(0, 4));
        MindFest single = Fests.ofPlayers(3);
        single.event('t', 1, 3);
        CHECK.is("5, ahead of the only round", single.join(0, 2), 3);
        single.event('n', 1, 6);
        CHECK.is("5, in two events", single.join(1, 0), 3);
    }

    /** A ban keeps one from being paired, and from nothing else. */
    private static void banned() {
        MindFest fest = Fests.ofPlayers(5);
        Fests.ban(fest, 4);
        fest.event('t', 2, 19);
        CHECK.is("3, one who is banned is in it", fest.rank(0, 4), 3);
        fest.event('t', 2, 3);
        CHECK.is("5, one who is banned", fest.join(1, 4), 3);
        fest.pair(0);
        CHECK.is("8, not banned: the others", Fests.pairOf(fest, 0), "0-1");
        CHECK.fails("8, who is banned has no bye", java.util.NoSuchElementException.class, () -> fest.bye(0, 0));
        CHECK.is("21, who is banned has no points", fest.points(0, 4), 0);
        CHECK.is("6, one who is banned", fest.withdraw(1, 4), 2);
        CHECK.fails("5, nor joins again, banned", SUPPORT, () -> fest.join(1, 4));
        Fests.lift(fest, 4);
        CHECK.fails("5, nor joins again, the ban being lifted", SUPPORT, () -> fest.join(1, 4));
        fest.end(0, '1');
        fest.pair(0);
        CHECK.is("8, of three one has the bye: 100, and not 400", fest.bye(0, 1), 0);
        CHECK.is("8, the ban being lifted", Fests.pairOf(fest, 1), "1-4");
    }

    private static void joinRefused() {
        for (int event : new int[]{-1, 3, 4, LEAST, MOST}) {
            MIDWAY.refuse("5, no such event: " + event, INDEX, fest -> fest.join(event, 6));
        }
        for (int player : new int[]{-1, 7, 12, 32, 38, LEAST, MOST}) {
            MIDWAY.refuse("5, no such player: " + player, INDEX, fest -> fest.join(2, player));
            MIDWAY.refuse("5, no such player goes ahead of closed: " + player, INDEX, fest -> fest.join(0, player));
        }
        MIDWAY.refuse("5, the event is closed", SUPPORT, fest -> fest.join(0, 6));
        MIDWAY.refuse("5, the player is in it", SUPPORT, fest -> fest.join(2, 1));
        FULL.refuse("5, if it has 10", STATE, fest -> fest.join(1, 10));
        FULL.refuse("5, no such player goes ahead of 10", INDEX, fest -> fest.join(1, 12));
        FULL.refuse("5, closed goes ahead of 10", SUPPORT, fest -> fest.join(0, 10));
        FULL.refuse("5, all rounds paired goes ahead of 10", SUPPORT, fest -> fest.join(3, 10));
        FULL.refuse("5, who is in it goes ahead of 10", SUPPORT, fest -> fest.join(1, 9));
        Refusals left = new Refusals(CHECK, () -> {
            MindFest fest = Fests.full();
            fest.withdraw(1, 9);
            return fest;
        });
        left.refuse("5, nor joins again", SUPPORT, fest -> fest.join(1, 9));
        left.refuse("5, who withdrew is still one of 10", STATE, fest -> fest.join(1, 11));
        Refusals fewer = new Refusals(CHECK, () -> {
            MindFest fest = Fests.midway();
            fest.withdraw(2, 0);
            return fest;
        });
        fewer.refuse("5, nor joins again, as one of two", SUPPORT, fest -> fest.join(2, 0));
    }

    private static void withdrawTo() {
        MindFest fest = Fests.ofPlayers(12);
        fest.event('t', 1, 1023 << 2);
        for (int player = 2; player < 11; player++) {
            CHECK.is("6, how many are left", fest.withdraw(0, player), 11 - player);
        }
        CHECK.is("6, the last one: none is left", fest.withdraw(0, 11), 0);
        CHECK.is("6, those who withdrew too are ranked", fest.ranked(0, 10), 11);
        CHECK.is("6, an event of none is closed", fest.close(0), 2);
        MindFest late = Fests.withGame('t');
        CHECK.is("6, while a game goes on", late.withdraw(0, 0), 1);
        CHECK.is("6, the game goes on", late.move(0, 4, 1), '*');
        MindFest all = Fests.ofPlayers(2);
        all.event('t', 1, 3);
        Fests.round(all, 0, '1');
        CHECK.is("6, when all rounds are paired", all.withdraw(0, 1), 1);
        all.event('t', 1, 3);
        CHECK.is("6, from one event alone", all.withdraw(1, 1), 1);
    }

    private static void withdrawRefused() {
        for (int event : new int[]{-1, 3, 4, LEAST, MOST}) {
            MIDWAY.refuse("6, no such event: " + event, INDEX, fest -> fest.withdraw(event, 1));
        }
        for (int player : new int[]{-1, 7, 12, 32, 33, LEAST, MOST}) {
            MIDWAY.refuse("6, no such player: " + player, INDEX, fest -> fest.withdraw(2, player));
            MIDWAY.refuse("6, no such player goes first: " + player, INDEX, fest -> fest.withdraw(0, player));
        }
        MIDWAY.refuse("6, the event is closed", SUPPORT, fest -> fest.withdraw(0, 1));
        MIDWAY.refuse("6, the player is not in it", SUPPORT, fest -> fest.withdraw(2, 2));
        MIDWAY.refuse("6, the player is not in it, but in another one", SUPPORT, fest -> fest.withdraw(1, 0));
        Refusals left = new Refusals(CHECK, () -> {
            MindFest fest = Fests.midway();
            fest.withdraw(1, 3);
            return fest;
        });
        left.refuse("6, or withdrew", SUPPORT, fest -> fest.withdraw(1, 3));
    }

    private static void closeTo() {
        MindFest fest = Fests.ofRatings(1500, 1501, 1501, 1400);
        fest.event('t', 1, 15);
        CHECK.is("7, without a round: the first rank", fest.close(0), 1);
        fest.event('t', 2, 9);
        fest.event('n', 2, 9);
        fest.pair(1);
        CHECK.is("7, a game of another one goes on", fest.close(2), 0);
        fest.end(0, '0');
        CHECK.is("7, ahead of the last round", fest.close(1), 3);
        MindFest gone = Fests.ofRatings(1600, 1500);
        gone.event('t', 1, 3);
        gone.withdraw(0, 0);
        CHECK.is("7, the first rank withdrew", gone.close(0), 0);
    }

    private static void closeRefused() {
        for (int event : new int[]{-1, 3, 4, LEAST, MOST}) {
            MIDWAY.refuse("7, no such event: " + event, INDEX, fest -> fest.close(event));
        }
        MIDWAY.refuse("7, it is closed", SUPPORT, fest -> fest.close(0));
        MIDWAY.refuse("7, a game of it goes on", SUPPORT, fest -> fest.close(1));
        FULL.refuse("7, it is closed, without games", SUPPORT, fest -> fest.close(2));
    }
}
