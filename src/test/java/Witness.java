import java.util.ArrayList;
import java.util.List;

/** Tells all that is to be seen of an olympiad, and all that comes of going on with it. */
final class Witness {
    /** Games beyond these are told by the checksum alone, so that no object is asked more often than it may be. */
    private static final int GAMES_LOOKED_AT = 8;

    private final MindFest fest;
    private final List<Object> told = new ArrayList<>();
    private int players;
    private int events;
    private int games;

    private Witness(MindFest fest) {
        this.fest = fest;
        while (players < 13 && answers(() -> fest.rating(players))) {
            players++;
        }
        while (events < 5 && answers(() -> fest.rounds(events))) {
            events++;
        }
        while (games < GAMES_LOOKED_AT && answers(() -> fest.result(games))) {
            games++;
        }
    }

    /** What calls that change nothing answer. */
    static String look(MindFest fest) {
        Witness witness = new Witness(fest);
        witness.lookAtAll();
        for (int event = 0; event < witness.events; event++) {
            witness.lookAtEvent(event);
        }
        for (int player = 0; player < witness.players; player++) {
            witness.lookAtPlayer(player);
        }
        for (int game = 0; game < witness.games; game++) {
            witness.lookAtGame(game);
        }
        return witness.told.toString();
    }

    /** What calls that change something answer: by them is seen what no other call tells. */
    static String goOn(MindFest fest) {
        Witness witness = new Witness(fest);
        for (int event = 0; event < witness.events; event++) {
            witness.goOnWithEvent(event);
        }
        for (int player = 0; player < witness.players; player++) {
            witness.goOnWithPlayer(player);
        }
        for (int game = 0; game < witness.games; game++) {
            witness.goOnWithGame(game);
        }
        witness.goOnWithAll();
        witness.lookAtAll();
        return witness.told.toString();
    }

    private static boolean answers(Check.Call call) {
        try {
            call.run();
            return true;
        } catch (RuntimeException thrown) {
            return false;
        }
    }

    private void ask(Check.Call call) {
        try {
            told.add(call.run());
        } catch (RuntimeException thrown) {
            told.add(thrown.getClass().getSimpleName());
        }
    }

    private void lookAtAll() {
        told.add(players + " players, " + events + " events, " + games + " games");
        ask(fest::checksum);
        ask(fest::isSound);
        ask(fest::overShare);
    }

    private void lookAtEvent(int event) {
        ask(() -> fest.rounds(event));
        ask(() -> fest.weight(event));
        ask(() -> fest.bye(event, 0));
        ask(() -> fest.bye(event, 1));
        for (int p = 0; p < players; p++) {
            int player = p;
            ask(() -> fest.points(event, player));
            ask(() -> fest.tieBreak(event, player, 1));
            ask(() -> fest.tieBreak(event, player, 2));
            ask(() -> fest.rank(event, player));
            ask(() -> fest.share(event, player));
        }
    }

    private void lookAtPlayer(int player) {
        ask(() -> fest.rating(player));
        ask(() -> fest.ratingOn(player, 1));
        ask(() -> fest.rated(player));
        ask(() -> fest.norms(player));
        ask(() -> fest.isTitled(player));
        ask(() -> fest.odds(player));
        ask(() -> fest.isBanned(player));
        ask(() -> fest.mark(player));
        ask(() -> fest.overall(player));
    }

    private void lookAtGame(int game) {
        ask(() -> fest.result(game));
        ask(() -> fest.best(game));
        for (boolean isFirst : new boolean[]{true, false}) {
            ask(() -> fest.playerOf(game, isFirst));
            ask(() -> fest.time(game, isFirst));
            ask(() -> fest.periods(game, isFirst));
        }
    }

    private void goOnWithEvent(int event) {
        ask(() -> fest.clock(event, 'd', 11, 2, 0));
        ask(() -> fest.prize(event, 3));
        for (int p = 0; p < players; p++) {
            int player = p;
            ask(() -> fest.join(event, player));
        }
        ask(() -> fest.withdraw(event, 1));
    }

    private void goOnWithPlayer(int player) {
        ask(() -> fest.agree(player, 3, 3));
        ask(() -> fest.odds(player));
        for (int by = 0; by < 4; by++) {
            int eyes = by;
            ask(() -> fest.suspect(player, eyes));
        }
        ask(() -> fest.lift(player));
    }

    private void goOnWithGame(int game) {
        for (int move : new int[]{0, 1, 4, 8, 11, 22}) {
            ask(() -> fest.move(game, move, 7));
        }
        ask(() -> fest.time(game, true));
        ask(() -> fest.periods(game, false));
        ask(() -> fest.correct(game, '0'));
        ask(() -> fest.end(game, '1'));
    }

    private void goOnWithAll() {
        ask(() -> fest.player(1234, 5));
        ask(() -> fest.event('t', 1, 3));
        ask(fest::day);
        ask(fest::checksum);
        for (int e = 0; e < 4; e++) {
            int event = e;
            ask(() -> fest.weight(event));
            ask(() -> fest.pair(event));
            ask(() -> fest.close(event));
        }
    }
}
