/** Olympiads that several tests begin with. */
final class Fests {
    private Fests() {
    }

    /** So many players of the rating 1500, each of a land of its own as far as there are lands. */
    static MindFest ofPlayers(int count) {
        MindFest fest = new MindFest();
        for (int i = 0; i < count; i++) {
            fest.player(1500, i % 10);
        }
        return fest;
    }

    static MindFest ofRatings(int... ratings) {
        MindFest fest = new MindFest();
        for (int i = 0; i < ratings.length; i++) {
            fest.player(ratings[i], i % 10);
        }
        return fest;
    }

    /** Two players, one event between them with the clock, and its one game, in which player 0 is first. */
    static MindFest withGame(char game, char kind, int base, int extra, int periods) {
        MindFest fest = ofPlayers(2);
        fest.event(game, 7, 3);
        fest.clock(0, kind, base, extra, periods);
        fest.pair(0);
        return fest;
    }

    static MindFest withGame(char game) {
        return withGame(game, 'i', 300, 10, 1);
    }

    static MindFest withMoves(char game, int... moves) {
        MindFest fest = withGame(game);
        for (int move : moves) {
            fest.move(0, move, 1);
        }
        return fest;
    }

    /** Lets a player play one other after the other in a new event of 't', with so many points from each. */
    static int gauntlet(MindFest fest, int player, int[] others, int[] points) {
        int event = fest.event('t', 7, 1 << player | 1 << others[0]);
        for (int i = 0; i < others.length; i++) {
            if (i > 0) {
                fest.withdraw(event, others[i - 1]);
                fest.join(event, others[i]);
            }
            int game = fest.pair(event);
            fest.end(game, resultFor(fest.playerOf(game, true) == player, points[i]));
        }
        return event;
    }

    /** 2, 1 and 0 points by playing, 3 and -1 for a win and a loss by forfeit. */
    private static char resultFor(boolean isFirst, int points) {
        String letters = isFirst ? "-0=1+" : "+1=0-";
        return letters.charAt(points + 1);
    }

    /** The event of the document's rules for tables: ranks 0, 1, 3, 2, points 4, 2, 1, 1. */
    static MindFest withTable() {
        MindFest fest = ofPlayers(4);
        fest.event('t', 3, 15);
        fest.pair(0);
        fest.end(0, '1');
        fest.end(1, '=');
        fest.pair(0);
        fest.end(2, '0');
        fest.end(3, '+');
        return fest;
    }
}
