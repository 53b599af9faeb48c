import java.util.ArrayList;
import java.util.List;

/**
 * A call that throws changes nothing: each wrong call is made in an olympiad of its own, which then has to answer a
 * long row of calls, some of which change it, as one does that was left alone.
 */
public final class ThrowingTest {
    private static final Check CHECK = new Check("ThrowingTest");
    private static final Class<IndexOutOfBoundsException> INDEX = IndexOutOfBoundsException.class;
    private static final Class<IllegalArgumentException> ARGUMENT = IllegalArgumentException.class;
    private static final Class<IllegalStateException> STATE = IllegalStateException.class;
    private static final Class<UnsupportedOperationException> SUPPORT = UnsupportedOperationException.class;

    interface Wrong {
        Object run(MindFest fest);
    }

    private static String untouched;

    public static void main(String[] args) {
        untouched = tell(Fests.midway());
        playersAndEvents();
        games();
        persons();
        prizes();
        fullOlympiad();
        CHECK.close();
    }

    private static void wrong(String call, Class<? extends RuntimeException> due, Wrong wrong) {
        MindFest fest = Fests.midway();
        CHECK.fails(call, due, () -> wrong.run(fest));
        CHECK.is("what stands after " + call, tell(fest), untouched);
    }

    private static void ask(List<Object> told, Check.Call call) {
        try {
            told.add(call.run());
        } catch (RuntimeException thrown) {
            told.add(thrown.getClass().getSimpleName());
        }
    }

    /** All that is to be seen, then what comes of going on. */
    private static String tell(MindFest fest) {
        List<Object> told = new ArrayList<>();
        look(fest, told);
        for (int move : new int[]{11, 12, 13}) {
            ask(told, () -> fest.move(2, move, 3));
        }
        ask(told, () -> fest.pair(2));
        ask(told, () -> fest.move(4, 0, 22));
        ask(told, () -> fest.end(2, '1'));
        ask(told, () -> fest.pair(1));
        ask(told, () -> fest.join(1, 0));
        ask(told, () -> fest.withdraw(1, 1));
        ask(told, () -> fest.prize(0, 5));
        ask(told, () -> fest.agree(4, 1, 0));
        ask(told, () -> fest.agree(0, 1, 0));
        ask(told, () -> fest.suspect(4, 2));
        ask(told, () -> fest.suspect(6, 2));
        ask(told, () -> fest.lift(5));
        ask(told, () -> fest.player(1234, 5));
        ask(told, () -> fest.event('n', 1, 3));
        ask(told, fest::day);
        look(fest, told);
        return told.toString();
    }

    private static void look(MindFest fest, List<Object> told) {
        ask(told, fest::checksum);
        ask(told, fest::isSound);
        ask(told, fest::overShare);
        for (int event = 0; event < 4; event++) {
            lookAtEvent(fest, told, event);
        }
        for (int player = 0; player < 8; player++) {
            lookAtPlayer(fest, told, player);
        }
        for (int game = 0; game < 7; game++) {
            lookAtGame(fest, told, game);
        }
    }

    private static void lookAtEvent(MindFest fest, List<Object> told, int event) {
        ask(told, () -> fest.rounds(event));
        ask(told, () -> fest.bye(event, 0));
        ask(told, () -> fest.weight(event));
        for (int rank = 1; rank < 7; rank++) {
            int one = rank;
            ask(told, () -> fest.ranked(event, one));
            ask(told, () -> fest.share(event, one - 1));
        }
    }

    private static void lookAtPlayer(MindFest fest, List<Object> told, int player) {
        ask(told, () -> fest.rating(player));
        ask(told, () -> fest.rated(player));
        ask(told, () -> fest.odds(player));
        ask(told, () -> fest.isBanned(player));
        ask(told, () -> fest.mark(player));
    }

    private static void lookAtGame(MindFest fest, List<Object> told, int game) {
        ask(told, () -> fest.result(game));
        ask(told, () -> fest.best(game));
        ask(told, () -> fest.time(game, true));
        ask(told, () -> fest.time(game, false));
        ask(told, () -> fest.periods(game, true));
        ask(told, () -> fest.playerOf(game, true));
    }

    private static void playersAndEvents() {
        wrong("player(99, 0)", ARGUMENT, fest -> fest.player(99, 0));
        wrong("player(1500, 10)", ARGUMENT, fest -> fest.player(1500, 10));
        wrong("event('x', 1, 3)", ARGUMENT, fest -> fest.event('x', 1, 3));
        wrong("event('t', 8, 3)", ARGUMENT, fest -> fest.event('t', 8, 3));
        wrong("event('t', 1, 128)", ARGUMENT, fest -> fest.event('t', 1, 129));
        wrong("clock(3, 'd', 10, 1, 1)", INDEX, fest -> fest.clock(3, 'd', 10, 1, 1));
        wrong("clock(2, 'd', 9, 1, 1)", ARGUMENT, fest -> fest.clock(2, 'd', 9, 1, 1));
        wrong("clock(2, 'b', 10, 1, 6)", ARGUMENT, fest -> fest.clock(2, 'b', 10, 1, 6));
        wrong("clock(1, 'd', 10, 1, 1)", SUPPORT, fest -> fest.clock(1, 'd', 10, 1, 1));
        wrong("join(0, 4)", SUPPORT, fest -> fest.join(0, 4));
        wrong("join(1, 9)", INDEX, fest -> fest.join(1, 9));
        wrong("join(1, 1)", SUPPORT, fest -> fest.join(1, 1));
        wrong("withdraw(0, 1)", SUPPORT, fest -> fest.withdraw(0, 1));
        wrong("withdraw(1, 0)", SUPPORT, fest -> fest.withdraw(1, 0));
        wrong("close(0)", SUPPORT, fest -> fest.close(0));
        wrong("close(1)", SUPPORT, fest -> fest.close(1));
        wrong("close(9)", INDEX, fest -> fest.close(9));
    }

    private static void games() {
        wrong("pair(0)", SUPPORT, fest -> fest.pair(0));
        wrong("pair(1)", SUPPORT, fest -> fest.pair(1));
        wrong("pair(3)", INDEX, fest -> fest.pair(3));
        wrong("weight(1)", SUPPORT, fest -> fest.weight(1));
        wrong("move(9, 0, 0)", INDEX, fest -> fest.move(9, 0, 0));
        wrong("move(3, 11, 1)", SUPPORT, fest -> fest.move(3, 11, 1));
        wrong("move(2, 1, 1)", ARGUMENT, fest -> fest.move(2, 1, 1));
        wrong("move(2, 11, 1000)", ARGUMENT, fest -> fest.move(2, 11, 1000));
        wrong("end(2, '=')", ARGUMENT, fest -> fest.end(2, '='));
        wrong("end(3, '1')", SUPPORT, fest -> fest.end(3, '1'));
        wrong("end(4, '1')", INDEX, fest -> fest.end(4, '1'));
        wrong("adjudge(0)", SUPPORT, fest -> fest.adjudge(0));
        wrong("correct(0, '0')", SUPPORT, fest -> fest.correct(0, '0'));
        wrong("correct(2, '0')", SUPPORT, fest -> fest.correct(2, '0'));
        wrong("correct(3, '=')", ARGUMENT, fest -> fest.correct(3, '='));
    }

    private static void persons() {
        wrong("agree(4, 53, 1)", STATE, fest -> fest.agree(4, 53, 1));
        wrong("agree(4, 5, 6)", ARGUMENT, fest -> fest.agree(4, 5, 6));
        wrong("suspect(4, 0)", SUPPORT, fest -> fest.suspect(4, 0));
        wrong("suspect(4, 4)", ARGUMENT, fest -> fest.suspect(4, 4));
        wrong("suspect(4, 7)", INDEX, fest -> fest.suspect(4, 7));
        wrong("suspect(5, 2)", SUPPORT, fest -> fest.suspect(5, 2));
        wrong("lift(4)", SUPPORT, fest -> fest.lift(4));
        wrong("odds(0)", ArithmeticException.class, fest -> fest.odds(0));
        wrong("rating(-1)", INDEX, fest -> fest.rating(-1));
    }

    private static void prizes() {
        wrong("prize(0, -1)", ARGUMENT, fest -> fest.prize(0, -1));
        wrong("prize(1, 5)", SUPPORT, fest -> fest.prize(1, 5));
        wrong("prize(9, 5)", INDEX, fest -> fest.prize(9, 5));
    }

    /** What throws as all is full: a 13th player, a fifth event, an eleventh in an event, a seventh prize. */
    private static void fullOlympiad() {
        MindFest fest = Fests.ofPlayers(12);
        for (int event = 0; event < 4; event++) {
            fest.event('t', 2, 1023);
        }
        fest.close(0);
        for (int prize = 0; prize < 6; prize++) {
            fest.prize(0, 10);
        }
        long before = fest.checksum();
        CHECK.fails("a 13th player", STATE, () -> fest.player(1500, 0));
        CHECK.fails("a fifth event", STATE, () -> fest.event('t', 2, 3));
        CHECK.fails("an eleventh", STATE, () -> fest.join(1, 10));
        CHECK.fails("a seventh prize", STATE, () -> fest.prize(0, 10));
        CHECK.is("all stands as it was", fest.checksum(), before);
        CHECK.fails("player 12", INDEX, () -> fest.rating(12));
        CHECK.fails("event 4", INDEX, () -> fest.rounds(4));
        CHECK.fails("not in it", java.util.NoSuchElementException.class, () -> fest.points(1, 10));
        CHECK.yes("shares sum", fest.isSound());
    }
}
