/** Promises 12 to 20: move, isLegal, time, periods, end, adjudge, best, correct, result. */
public final class GamesTest {
    private static final Class<IndexOutOfBoundsException> INDEX = IndexOutOfBoundsException.class;
    private static final Class<IllegalArgumentException> ARGUMENT = IllegalArgumentException.class;
    private static final Class<UnsupportedOperationException> SUPPORT = UnsupportedOperationException.class;
    private static final Check CHECK = new Check("GamesTest");

    public static void main(String[] args) {
        rowsOfThree();
        drawnBoard();
        rowOnTheLastPlace();
        heaps();
        wrongMoves();
        legalMoves();
        delay();
        increment();
        periods();
        flags();
        flagByHeaps();
        tellResults();
        bestOfRows();
        bestOfHeaps();
        adjudge();
        correct();
        wrongNumbers();
        CHECK.close();
    }

    /** Each row of three wins, for the first one and for the other one. */
    private static void rowsOfThree() {
        int[][] rows = {{0, 1, 2, 3, 4, 8}, {3, 4, 5, 0, 1, 8}, {6, 7, 8, 0, 1, 5}, {0, 3, 6, 1, 2, 8},
            {1, 4, 7, 0, 2, 3}, {2, 5, 8, 0, 1, 3}, {0, 4, 8, 1, 2, 3}, {2, 4, 6, 0, 1, 3}};
        for (int[] row : rows) {
            MindFest fest = Fests.withMoves('t', row[0], row[3], row[1], row[4]);
            CHECK.is("it goes on", fest.result(0), '*');
            CHECK.is("the first one at " + row[2], fest.move(0, row[2], 1), '1');
            MindFest other = Fests.withMoves('t', row[3], row[0], row[4], row[1], row[5]);
            CHECK.is("it goes on", other.result(0), '*');
            CHECK.is("the other one at " + row[2], other.move(0, row[2], 1), '0');
            CHECK.is("result", other.result(0), '0');
        }
    }

    private static void drawnBoard() {
        MindFest fest = Fests.withMoves('t', 0, 1, 2, 4, 3, 5, 7, 6);
        CHECK.is("it goes on", fest.result(0), '*');
        CHECK.is("all are taken", fest.move(0, 8, 1), '=');
        CHECK.is("points of a draw", fest.points(0, 0), 1);
        CHECK.is("points of a draw", fest.points(0, 1), 1);
    }

    private static void rowOnTheLastPlace() {
        MindFest fest = Fests.withMoves('t', 0, 1, 2, 3, 4, 5, 7, 6);
        CHECK.is("a row with all taken wins", fest.move(0, 8, 1), '1');
    }

    private static void heaps() {
        MindFest fest = Fests.withMoves('n', 3, 14, 24);
        CHECK.is("one is left", fest.result(0), '*');
        CHECK.is("the other one takes the last", fest.move(0, 21, 1), '0');
        CHECK.is("points of the other one", fest.points(0, 1), 2);
        CHECK.is("the first one takes the last", Fests.withMoves('n', 3, 14).move(0, 25, 1), '1');
        CHECK.is("the first heap is left", Fests.withMoves('n', 14, 25).result(0), '*');
        CHECK.is("the second heap is left", Fests.withMoves('n', 3, 25).result(0), '*');
        CHECK.is("1, 4 and 3 are left", Fests.withMoves('n', 2, 22).result(0), '*');
        CHECK.is("the first heap last", Fests.withMoves('n', 14, 25).move(0, 3, 1), '1');
    }

    private static void wrongMoves() {
        MindFest fest = Fests.withMoves('t', 4);
        CHECK.fails("game 1", INDEX, () -> fest.move(1, 0, 1));
        CHECK.fails("game -1", INDEX, () -> fest.move(-1, 0, -1));
        CHECK.fails("a taken place", ARGUMENT, () -> fest.move(0, 4, 1));
        CHECK.fails("place 9", ARGUMENT, () -> fest.move(0, 9, 1));
        CHECK.fails("place -1", ARGUMENT, () -> fest.move(0, -1, 1));
        CHECK.fails("seconds -1", ARGUMENT, () -> fest.move(0, 0, -1));
        CHECK.fails("seconds 1000", ARGUMENT, () -> fest.move(0, 0, 1000));
        CHECK.fails("a taken place, and the flag", ARGUMENT, () -> fest.move(0, 4, 999));
        CHECK.is("no time was taken", fest.time(0, false), 300);
        fest.end(0, '=');
        CHECK.fails("over", SUPPORT, () -> fest.move(0, 0, 1));
        CHECK.fails("over, and 1000 seconds", SUPPORT, () -> fest.move(0, 0, 1000));
        CHECK.is("0 seconds", Fests.withGame('t').move(0, 0, 0), '*');
    }

    private static void legalMoves() {
        MindFest rows = Fests.withMoves('t', 4);
        CHECK.yes("a free place", rows.isLegal(0, 0) && rows.isLegal(0, 8));
        CHECK.no("a taken place", rows.isLegal(0, 4));
        CHECK.no("no place", rows.isLegal(0, 9) || rows.isLegal(0, -1) || rows.isLegal(0, Integer.MIN_VALUE));
        rows.end(0, '1');
        CHECK.no("over", rows.isLegal(0, 0));
        CHECK.fails("game 1", INDEX, () -> rows.isLegal(1, 0));
        MindFest heaps = Fests.withGame('n');
        String legal = "";
        for (int move = -40; move < 60; move++) {
            legal += heaps.isLegal(0, move) ? move + " " : "";
        }
        CHECK.is("all moves", legal, "1 2 3 11 12 13 14 21 22 23 24 25 ");
        heaps.move(0, 12, 1);
        CHECK.yes("as many as are left", heaps.isLegal(0, 12));
        CHECK.no("more than are left", heaps.isLegal(0, 13));
        CHECK.fails("more than are left", ARGUMENT, () -> heaps.move(0, 13, 1));
        CHECK.fails("none", ARGUMENT, () -> heaps.move(0, 10, 1));
        CHECK.fails("no such heap", ARGUMENT, () -> heaps.move(0, 31, 1));
        CHECK.fails("less than none", ARGUMENT, () -> heaps.move(0, -1, 1));
    }

    private static void delay() {
        MindFest fest = Fests.withGame('t', 'd', 20, 5, 1);
        CHECK.is("base", fest.time(0, true), 20);
        fest.move(0, 0, 5);
        CHECK.is("within the extra", fest.time(0, true), 20);
        fest.move(0, 1, 6);
        CHECK.is("above the extra", fest.time(0, false), 19);
        fest.move(0, 3, 25);
        CHECK.is("all of it", fest.time(0, true), 0);
        CHECK.is("no periods", fest.periods(0, true), 0);
        fest.move(0, 4, 0);
        CHECK.is("within the extra, at 0", fest.move(0, 8, 5), '*');
        CHECK.is("the flag of the other one", fest.move(0, 7, 25), '1');
        CHECK.is("time stays as it was", fest.time(0, false), 19);
    }

    private static void increment() {
        MindFest fest = Fests.withGame('t', 'i', 10, 3, 1);
        fest.move(0, 0, 10);
        CHECK.is("all of it, and the extra", fest.time(0, true), 3);
        fest.move(0, 1, 0);
        CHECK.is("the extra", fest.time(0, false), 13);
        CHECK.is("the flag of the first one", fest.move(0, 2, 4), '0');
        CHECK.is("time stays as it was", fest.time(0, true), 3);
        MindFest won = Fests.withGame('n', 'i', 10, 3, 1);
        won.move(0, 3, 0);
        won.move(0, 14, 0);
        CHECK.is("the last move", won.move(0, 25, 2), '1');
        CHECK.is("the extra by the last move too", won.time(0, true), 14);
    }

    private static void periods() {
        MindFest fest = Fests.withGame('t', 'b', 10, 5, 3);
        CHECK.is("all periods", fest.periods(0, true), 3);
        fest.move(0, 0, 10);
        CHECK.is("no time is left", fest.time(0, true), 0);
        CHECK.is("no period is lost", fest.periods(0, true), 3);
        fest.move(0, 1, 14);
        CHECK.is("less than the extra", fest.periods(0, false), 3);
        CHECK.is("no time is left", fest.time(0, false), 0);
        fest.move(0, 3, 5);
        CHECK.is("a whole extra", fest.periods(0, true), 2);
        fest.move(0, 4, 14);
        CHECK.is("two whole extras", fest.periods(0, false), 1);
        CHECK.is("less than the extra", fest.move(0, 8, 4), '*');
        CHECK.is("still two", fest.periods(0, true), 2);
        CHECK.is("the last period", fest.move(0, 5, 5), '1');
        CHECK.is("periods stay as they were", fest.periods(0, false), 1);
        MindFest brief = Fests.withGame('t', 'b', 10, 1, 5);
        brief.move(0, 0, 13);
        CHECK.is("a period for each second", brief.periods(0, true), 2);
        MindFest quick = Fests.withGame('t', 'b', 10, 5, 2);
        CHECK.is("all at once but one", quick.move(0, 0, 19), '*');
        CHECK.is("one is left", quick.periods(0, true), 1);
        CHECK.is("all at once", quick.move(0, 1, 20), '1');
        CHECK.is("time stays as it was", quick.time(0, false), 10);
        CHECK.is("periods stay as they were", quick.periods(0, false), 2);
    }

    private static void flags() {
        MindFest drawn = Fests.withMoves('t', 0, 1, 4, 2, 5, 3, 7, 6);
        CHECK.is("no row is free of marks of the first one", drawn.move(0, 8, 999), '=');
        CHECK.is("points of it", drawn.points(0, 1), 1);
        MindFest lost = Fests.withMoves('t', 0, 1, 4, 2, 5, 3);
        CHECK.is("the last row is free", lost.move(0, 7, 999), '0');
        CHECK.no("over by the flag", lost.isLegal(0, 7));
        CHECK.is("the flag of the other one", Fests.withMoves('t', 4).move(0, 0, 999), '1');
        CHECK.is("the flag by what would win", Fests.withMoves('t', 0, 3, 1, 4).move(0, 2, 999), '0');
    }

    private static void flagByHeaps() {
        CHECK.is("the flag of the first one", Fests.withGame('n').move(0, 1, 301), '0');
        CHECK.is("the flag by taking the last", Fests.withMoves('n', 3, 14).move(0, 25, 999), '0');
        CHECK.is("the flag of the other one", Fests.withMoves('n', 3).move(0, 25, 301), '1');
    }

    private static void tellResults() {
        MindFest fest = Fests.ofPlayers(10);
        fest.event('t', 1, 1023);
        fest.pair(0);
        CHECK.fails("game 5", INDEX, () -> fest.end(5, '1'));
        CHECK.fails("game -1", INDEX, () -> fest.end(-1, 'x'));
        CHECK.fails("*", ARGUMENT, () -> fest.end(0, '*'));
        CHECK.fails("2", ARGUMENT, () -> fest.end(0, '2'));
        CHECK.is("1", fest.end(0, '1'), 4);
        CHECK.is("0", fest.end(1, '0'), 3);
        CHECK.is("=", fest.end(2, '='), 2);
        CHECK.is("+", fest.end(3, '+'), 1);
        CHECK.is("-", fest.end(4, '-'), 0);
        CHECK.fails("over", SUPPORT, () -> fest.end(0, '1'));
        CHECK.fails("over, and no such result", ARGUMENT, () -> fest.end(0, 'x'));
        String told = "";
        for (int player = 0; player < 10; player++) {
            told += fest.points(0, player);
        }
        CHECK.is("points", told, "2002112002");
        MindFest heaps = Fests.withGame('n');
        CHECK.fails("= of heaps", ARGUMENT, () -> heaps.end(0, '='));
        CHECK.is("- of heaps", heaps.end(0, '-'), 0);
        CHECK.fails("= of heaps that are over", ARGUMENT, () -> heaps.end(0, '='));
    }

    private static void bestOfRows() {
        CHECK.is("at first", Fests.withGame('t').best(0), '=');
        CHECK.is("the middle, a corner", Fests.withMoves('t', 4, 0).best(0), '=');
        CHECK.is("the middle, a side", Fests.withMoves('t', 4, 1).best(0), '1');
        CHECK.is("a corner, the side by it", Fests.withMoves('t', 0, 1).best(0), '1');
        CHECK.is("a corner, the middle", Fests.withMoves('t', 0, 4).best(0), '=');
        CHECK.is("the other one wins at once", Fests.withMoves('t', 1, 4, 3, 0, 5).best(0), '0');
        CHECK.is("both are about to win", Fests.withMoves('t', 0, 3, 1, 4).best(0), '1');
        CHECK.is("the other one is to move, and lost", Fests.withMoves('t', 0, 1, 4).best(0), '1');
        CHECK.is("the other one is to move, and holds", Fests.withMoves('t', 4).best(0), '=');
        CHECK.is("the middle of a side", Fests.withMoves('t', 1, 0, 3).best(0), '=');
        CHECK.is("a game by forfeit", ended('t', '-').best(0), '-');
    }

    private static MindFest ended(char game, char result) {
        MindFest fest = Fests.withGame(game);
        fest.end(0, result);
        return fest;
    }

    /** Known from play by hand: two like heaps are lost for the one to move, as are 1, 2 and 3. */
    private static void bestOfHeaps() {
        CHECK.is("at first", Fests.withGame('n').best(0), '1');
        CHECK.is("1, 4 and 5", Fests.withMoves('n', 2).best(0), '1');
        CHECK.is("4 and 5", Fests.withMoves('n', 3).best(0), '0');
        CHECK.is("4 and 4", Fests.withMoves('n', 3, 21).best(0), '0');
        CHECK.is("1, 2 and 3 for the first one", Fests.withMoves('n', 2, 12, 21, 21).best(0), '0');
        CHECK.is("1, 2 and 3 for the other one", Fests.withMoves('n', 2, 12, 22).best(0), '1');
        CHECK.is("a single one", Fests.withMoves('n', 3, 14, 24).best(0), '0');
    }

    private static void adjudge() {
        MindFest fest = Fests.withMoves('t', 4, 1);
        CHECK.fails("game 1", INDEX, () -> fest.adjudge(1));
        CHECK.is("a win", fest.adjudge(0), '1');
        CHECK.is("it is the result", fest.result(0), '1');
        CHECK.is("points by it", fest.points(0, 0), 2);
        CHECK.fails("over", SUPPORT, () -> fest.adjudge(0));
        CHECK.is("a draw", Fests.withGame('t').adjudge(0), '=');
        CHECK.is("heaps", Fests.withMoves('n', 3).adjudge(0), '0');
        fest.day();
        CHECK.is("it is rated", fest.rating(0), 1520);
    }

    private static void correct() {
        MindFest fest = Fests.withGame('t');
        CHECK.fails("it goes on", SUPPORT, () -> fest.correct(0, '1'));
        CHECK.fails("it goes on, no such result", ARGUMENT, () -> fest.correct(0, '*'));
        CHECK.fails("game 1, no such result", INDEX, () -> fest.correct(1, '*'));
        fest.end(0, '1');
        CHECK.is("the one before", fest.correct(0, '='), '1');
        CHECK.is("the same again", fest.correct(0, '='), '=');
        CHECK.is("by forfeit", fest.correct(0, '-'), '=');
        CHECK.is("result", fest.result(0), '-');
        CHECK.is("points", fest.points(0, 1), 2);
        CHECK.fails("no such result", ARGUMENT, () -> fest.correct(0, 'x'));
        fest.close(0);
        CHECK.fails("closed", SUPPORT, () -> fest.correct(0, '1'));
        CHECK.fails("closed, no such result", ARGUMENT, () -> fest.correct(0, 'x'));
        MindFest heaps = ended('n', '1');
        CHECK.fails("= of heaps", ARGUMENT, () -> heaps.correct(0, '='));
        CHECK.is("0 of heaps", heaps.correct(0, '0'), '1');
    }

    private static void wrongNumbers() {
        MindFest fest = Fests.withGame('t');
        for (int game : new int[]{-1, 1, 100, Integer.MAX_VALUE, Integer.MIN_VALUE}) {
            CHECK.fails("time of " + game, INDEX, () -> fest.time(game, true));
            CHECK.fails("periods of " + game, INDEX, () -> fest.periods(game, false));
            CHECK.fails("result of " + game, INDEX, () -> fest.result(game));
            CHECK.fails("best of " + game, INDEX, () -> fest.best(game));
            CHECK.fails("adjudge of " + game, INDEX, () -> fest.adjudge(game));
            CHECK.fails("isLegal of " + game, INDEX, () -> fest.isLegal(game, 0));
            CHECK.fails("playerOf of " + game, INDEX, () -> fest.playerOf(game, true));
        }
        CHECK.is("it goes on", fest.result(0), '*');
    }
}
