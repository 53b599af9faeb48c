/** Olympiads that several tests begin with. */
final class Fests {
    private Fests() {
    }

    /** So many players of the rating 1500, each of a land of its own as far as there are lands. */
    static MindFest ofPlayers(int count) {
        MindFest fest = new MindFest();
        for (int i = 0; i < count; i++) {
            fest.player(1500, i % 10);
        }
        return fest;
    }

    static MindFest ofRatings(int... ratings) {
        MindFest fest = new MindFest();
        for (int i = 0; i < ratings.length; i++) {
            fest.player(ratings[i], i % 10);
        }
        return fest;
    }

    /** Two players, one event between them with the clock, and its one game, in which player 0 is first. */
    static MindFest withGame(char game, char kind, int base, int extra, int periods) {
        MindFest fest = ofPlayers(2);
        fest.event(game, 7, 3);
        fest.clock(0, kind, base, extra, periods);
        fest.pair(0);
        return fest;
    }

    static MindFest withGame(char game) {
        return withGame(game, 'i', 300, 10, 1);
    }

    static MindFest withMoves(char game, int... moves) {
        MindFest fest = withGame(game);
        for (int move : moves) {
            fest.move(0, move, 1);
        }
        return fest;
    }

    /** Lets a player play one other after the other in a new event of 't', with so many points from each. */
    static int gauntlet(MindFest fest, int player, int[] others, int[] points) {
        int event = fest.event('t', 7, 1 << player | 1 << others[0]);
        for (int i = 0; i < others.length; i++) {
            if (i > 0) {
                fest.withdraw(event, others[i - 1]);
                fest.join(event, others[i]);
            }
            int game = fest.pair(event);
            fest.end(game, resultFor(fest.playerOf(game, true) == player, points[i]));
        }
        return event;
    }

    /** 2, 1 and 0 points by playing, 3 and -1 for a win and a loss by forfeit. */
    private static char resultFor(boolean isFirst, int points) {
        String letters = isFirst ? "-0=1+" : "+1=0-";
        return letters.charAt(points + 1);
    }

    /** The event of the document's rules for tables: ranks 0, 1, 3, 2, points 4, 2, 1, 1. */
    static MindFest withTable() {
        MindFest fest = ofPlayers(4);
        fest.event('t', 3, 15);
        fest.pair(0);
        fest.end(0, '1');
        fest.end(1, '=');
        fest.pair(0);
        fest.end(2, '0');
        fest.end(3, '+');
        return fest;
    }

    /** Tells that a player won a game, whoever was first in it. */
    static void win(MindFest fest, int game, int player) {
        fest.end(game, fest.playerOf(game, true) == player ? '1' : '0');
    }

    /** Tells one result for all games of the round that is paired. */
    static void round(MindFest fest, int event, char result) {
        int game = fest.pair(event);
        while (fest.end(game, result) > 0) {
            game++;
        }
    }

    /** Seven players: event 0 is closed with a prize, event 1 has games that go on, event 2 none; 5 is banned. */
    static MindFest midway() {
        MindFest fest = ofRatings(1900, 1950, 2000, 2050, 2100, 1800, 1700);
        fest.event('t', 1, 15);
        fest.event('n', 2, 62);
        fest.event('t', 2, 3);
        fest.clock(2, 'b', 20, 5, 2);
        fest.pair(0);
        fest.end(0, '1');
        fest.end(1, '=');
        fest.close(0);
        fest.prize(0, 77);
        fest.day();
        fest.pair(1);
        fest.move(2, 3, 5);
        fest.end(3, '0');
        fest.agree(5, 9, 9);
        fest.suspect(5, 0);
        fest.suspect(5, 1);
        fest.agree(4, 8, 8);
        fest.suspect(4, 0);
        return fest;
    }

    /**
     * Twelve players and four events: event 0 is closed and has 6 prizes, event 1 has 10 players and goes on, event 2
     * is closed and has as many prizes as players, event 3 has 10 players and all its rounds are paired.
     */
    static MindFest full() {
        MindFest fest = ofPlayers(12);
        fest.event('t', 2, 1023);
        fest.event('n', 7, 1023);
        fest.event('t', 2, 3);
        fest.event('n', 1, 1023);
        fest.close(0);
        fest.close(2);
        for (int prize = 0; prize < 6; prize++) {
            fest.prize(0, 10 + prize);
        }
        fest.prize(2, 5);
        fest.prize(2, 5);
        round(fest, 1, '+');
        round(fest, 3, '1');
        return fest;
    }

    /** A hundred games are over: events 0 and 1 are paired to their end, event 2 has a round left, event 3 all. */
    static MindFest hundredGames() {
        MindFest fest = ofPlayers(12);
        for (int i = 0; i < 3; i++) {
            fest.event('t', 7, 1023);
        }
        fest.event('n', 7, 3 << 10);
        for (int round = 0; round < 20; round++) {
            round(fest, round / 7, '+');
        }
        return fest;
    }

    /** Bans players: each is told 20 agreements and the eyes of two others of the first four players. */
    static void ban(MindFest fest, int... players) {
        for (int player : players) {
            fest.agree(player, 20, 20);
            fest.suspect(player, player < 2 ? 2 : 0);
            fest.suspect(player, player < 2 ? 3 : 1);
        }
    }

    static void lift(MindFest fest, int... players) {
        for (int player : players) {
            fest.lift(player);
        }
    }

    static void withdraw(MindFest fest, int event, int... players) {
        for (int player : players) {
            fest.withdraw(event, player);
        }
    }

    /** Who is first and who is second in a game. */
    static String pairOf(MindFest fest, int game) {
        return fest.playerOf(game, true) + "-" + fest.playerOf(game, false);
    }
}
