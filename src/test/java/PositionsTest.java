import java.util.HashSet;
import java.util.Set;

/** Each position that either game can come to: what best play brings, and which moves are legal, as Model finds it. */
public final class PositionsTest {
    private static final Check CHECK = new Check("PositionsTest");

    private final char game;
    private final Set<String> seen = new HashSet<>();

    private PositionsTest(char game) {
        this.game = game;
    }

    public static void main(String[] args) {
        PositionsTest rows = new PositionsTest('t');
        rows.visit(new int[0]);
        CHECK.is("positions of rows that go on", rows.seen.size(), 4520);
        PositionsTest heaps = new PositionsTest('n');
        heaps.visit(new int[0]);
        CHECK.yes("positions of heaps that go on", heaps.seen.size() > 200);
        CHECK.close();
    }

    private void visit(int[] moves) {
        Model model = new Model();
        model.player(1500, 0);
        model.player(1500, 1);
        model.event(game, 1, 3);
        model.pair(0);
        MindFest fest = Fests.withGame(game);
        for (int move : moves) {
            CHECK.is("move " + move, fest.move(0, move, 1), model.move(0, move, 1));
        }
        if (model.result(0) != '*' || !seen.add(model.matches.get(0).board + " " + moves.length % 2)) {
            return;
        }
        CHECK.is("best at " + model.matches.get(0).board, fest.best(0), model.best(0));
        for (int move = 0; move < 30; move++) {
            CHECK.is("isLegal " + move, fest.isLegal(0, move), model.isLegal(0, move));
            if (model.isLegal(0, move)) {
                int[] more = java.util.Arrays.copyOf(moves, moves.length + 1);
                more[moves.length] = move;
                visit(more);
            }
        }
    }
}
