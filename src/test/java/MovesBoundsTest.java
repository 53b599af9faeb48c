/** The bounds that promises 12 to 20 name: move, isLegal, time, periods, end, adjudge, best, correct, result. */
public final class MovesBoundsTest {
    private static final Class<IndexOutOfBoundsException> INDEX = IndexOutOfBoundsException.class;
    private static final Class<IllegalArgumentException> ARGUMENT = IllegalArgumentException.class;
    private static final Class<UnsupportedOperationException> SUPPORT = UnsupportedOperationException.class;
    private static final int LEAST = Integer.MIN_VALUE;
    private static final int MOST = Integer.MAX_VALUE;
    private static final char[] RESULTS = {'1', '0', '=', '+', '-'};
    private static final char[] NO_RESULTS = {'*', ',', '.', '/', '2', '<', '>', ' ', 'x', 0, '1' + 256, 65535};
    private static final Check CHECK = new Check("MovesBoundsTest");
    private static final Refusals MIDWAY = new Refusals(CHECK, Fests::midway);

    /** Game 0 is of 't' with 4 and 0 taken, game 1 of 'n' with 0, 3 and 5 in the heaps, games 2 and 3 are over. */
    private static final Refusals GAMES = new Refusals(CHECK, MovesBoundsTest::games);

    public static void main(String[] args) {
        secondsOfMoves();
        placesOfRows();
        takenFromHeaps();
        takingTheLast();
        allPlacesTaken();
        moveRefused();
        moveWhenOver();
        delayAtItsEdges();
        incrementAtItsEdges();
        periodsAtTheirEdges();
        spentPeriods();
        flagAndRows();
        flagAndEachRow();
        flagAndHeaps();
        flagChangesNothingElse();
        legalWhenOver();
        numbersOfGames();
        resultsTold();
        endRefused();
        adjudged();
        adjudgeRefused();
        bestWhenOver();
        corrected();
        correctRefused();
        CHECK.close();
    }

    private static MindFest games() {
        MindFest fest = Fests.ofPlayers(4);
        fest.event('t', 2, 3);
        fest.event('n', 2, 3);
        fest.event('t', 2, 12);
        fest.event('n', 2, 12);
        for (int event = 0; event < 4; event++) {
            fest.pair(event);
        }
        fest.move(0, 4, 1);
        fest.move(0, 0, 1);
        fest.move(1, 3, 1);
        fest.move(1, 11, 1);
        fest.end(2, '=');
        fest.end(3, '0');
        fest.close(3);
        return fest;
    }

    private static void secondsOfMoves() {
        MindFest fest = Fests.withGame('t');
        CHECK.is("12, seconds: 0", fest.move(0, 0, 0), '*');
        CHECK.is("12, seconds: 0 leave the time", fest.time(0, true), 310);
        CHECK.is("12, seconds: 1", fest.move(0, 1, 1), '*');
        CHECK.is("12, seconds: 1 is taken", fest.time(0, false), 309);
        CHECK.is("12, seconds: 999", fest.move(0, 2, 999), '0');
        MindFest wide = Fests.withGame('t', 'b', 600, 60, 5);
        CHECK.is("12, seconds: 899, the most by which no flag falls", wide.move(0, 0, 899), '*');
        CHECK.is("12, seconds: 900", wide.move(0, 1, 900), '1');
    }

    private static void placesOfRows() {
        for (int place = 0; place <= 8; place++) {
            MindFest fest = Fests.withGame('t');
            CHECK.yes("13, the places 0 to 8: " + place, fest.isLegal(0, place));
            CHECK.is("12, the places 0 to 8: " + place, fest.move(0, place, 1), '*');
            CHECK.no("13, a free place: taken " + place, fest.isLegal(0, place));
        }
        for (int place : new int[]{-1, 9, 10, 32, 36, 256, LEAST, MOST}) {
            GAMES.refuse("12, the places 0 to 8: " + place, ARGUMENT, fest -> fest.move(0, place, 1));
            CHECK.no("13, the places 0 to 8: " + place, games().isLegal(0, place));
        }
        GAMES.refuse("12, a free place: own", ARGUMENT, fest -> fest.move(0, 4, 1));
        GAMES.refuse("12, a free place: of the other one", ARGUMENT, fest -> fest.move(0, 0, 1));
    }

    private static void takenFromHeaps() {
        int[] sizes = {3, 4, 5};
        for (int heap = 0; heap <= 2; heap++) {
            for (int taken = 0; taken <= 9; taken++) {
                int move = 10 * heap + taken;
                boolean isDue = taken >= 1 && taken <= sizes[heap];
                MindFest fest = Fests.withGame('n');
                CHECK.is("13, three heaps of 3, 4 and 5: " + move, fest.isLegal(0, move), isDue);
                if (isDue) {
                    CHECK.is("12, how many are taken: " + move, fest.move(0, move, 1), '*');
                    CHECK.is("13, as many again: " + move, fest.isLegal(0, move), 2 * taken <= sizes[heap]);
                } else {
                    CHECK.fails("12, 1 at least, and no more than there are: " + move, ARGUMENT,
                            () -> fest.move(0, move, 1));
                }
            }
        }
        for (int move : new int[]{1, 2, 3, 10, 14, 20, 26, 30, 31, -1, -9, -10, -11, 0, 100, 111, LEAST, MOST}) {
            GAMES.refuse("12, no such heap, or not so many: " + move, ARGUMENT, fest -> fest.move(1, move, 1));
            CHECK.no("13, no such heap, or not so many: " + move, games().isLegal(1, move));
        }
        for (int move : new int[]{11, 13, 21, 25}) {
            CHECK.yes("13, from 0, 3 and 5: " + move, games().isLegal(1, move));
        }
    }

    private static void takingTheLast() {
        for (int heap = 0; heap <= 2; heap++) {
            int[] others = heap == 0 ? new int[]{14, 25} : heap == 1 ? new int[]{3, 25} : new int[]{3, 14};
            MindFest fest = Fests.withMoves('n', others);
            CHECK.is("12, one heap is left: it goes on", fest.result(0), '*');
            CHECK.is("12, all but one: it goes on", fest.move(0, 10 * heap + 2 + heap, 1), '*');
            CHECK.is("12, who takes the last one wins", fest.move(0, 10 * heap + 1, 1), '0');
            CHECK.is("12, all of the last heap", Fests.withMoves('n', others).move(0, 10 * heap + 3 + heap, 1), '1');
        }
    }

    private static void allPlacesTaken() {
        int[] eight = {0, 1, 2, 4, 3, 5, 7, 6};
        MindFest fest = new MindFest();
        fest.player(1500, 0);
        fest.player(1500, 1);
        fest.event('t', 7, 3);
        fest.pair(0);
        for (int move : eight) {
            CHECK.is("12, '*' if it goes on: " + move, fest.move(0, move, 1), '*');
        }
        CHECK.is("12, all being taken, it is drawn", fest.move(0, 8, 1), '=');
        CHECK.is("12, a row by the last place wins", Fests.withMoves('t', 0, 1, 2, 3, 4, 5, 7, 6).move(0, 8, 1), '1');
        CHECK.is("12, two rows by the last place", Fests.withMoves('t', 0, 1, 2, 3, 6, 5, 8, 7).move(0, 4, 1), '1');
        CHECK.is("12, a row by the third mark", Fests.withMoves('t', 0, 8, 1, 7).move(0, 2, 1), '1');
        CHECK.is("12, no row across the edge: 2, 3, 4", Fests.withMoves('t', 2, 0, 3, 8).move(0, 4, 1), '*');
        CHECK.is("12, no row across the edge: 5, 6, 7", Fests.withMoves('t', 5, 0, 6, 2).move(0, 7, 1), '*');
        CHECK.is("12, no slant: 1, 3, 5", Fests.withMoves('t', 1, 0, 3, 8).move(0, 5, 1), '*');
        CHECK.is("12, two of a row and one of the other", Fests.withMoves('t', 0, 2, 1, 8).move(0, 5, 1), '*');
    }

    private static void moveRefused() {
        for (int game : new int[]{-1, 4, 100, LEAST, MOST}) {
            GAMES.refuse("12, no such game: " + game, INDEX, fest -> fest.move(game, 1, 1));
            GAMES.refuse("12, no such game goes first: " + game, INDEX, fest -> fest.move(game, 99, 1000));
        }
        for (int seconds : new int[]{-1, 1000, LEAST, MOST}) {
            GAMES.refuse("12, seconds: 0 to 999: " + seconds, ARGUMENT, fest -> fest.move(0, 1, seconds));
            GAMES.refuse("12, seconds: 0 to 999, by heaps: " + seconds, ARGUMENT, fest -> fest.move(1, 21, seconds));
        }
        GAMES.refuse("12, not legal, and the flag would fall", ARGUMENT, fest -> fest.move(0, 4, 999));
        GAMES.refuse("12, not legal, and the flag would fall, by heaps", ARGUMENT, fest -> fest.move(1, 1, 999));
    }

    private static void moveWhenOver() {
        GAMES.refuse("12, it is over", SUPPORT, fest -> fest.move(2, 0, 1));
        GAMES.refuse("12, it is over, and its event closed", SUPPORT, fest -> fest.move(3, 1, 1));
        GAMES.refuse("12, over goes ahead of seconds", SUPPORT, fest -> fest.move(2, 0, 1000));
        GAMES.refuse("12, over goes ahead of legal", SUPPORT, fest -> fest.move(2, 9, 1));
        MindFest byRow = Fests.withMoves('t', 0, 8, 1, 7, 2);
        CHECK.fails("12, it is over by a row", SUPPORT, () -> byRow.move(0, 3, 1));
        MindFest byHeaps = Fests.withMoves('n', 3, 14, 25);
        CHECK.fails("12, it is over by the last one", SUPPORT, () -> byHeaps.move(0, 1, 1));
        MindFest byDraw = Fests.withMoves('t', 0, 1, 2, 4, 3, 5, 7, 6, 8);
        CHECK.fails("12, it is over by all places", SUPPORT, () -> byDraw.move(0, 0, 1));
        MindFest byFlag = Fests.withGame('t');
        byFlag.move(0, 0, 301);
        CHECK.fails("12, it is over by the flag", SUPPORT, () -> byFlag.move(0, 0, 1));
        MindFest adjudged = Fests.withGame('n');
        adjudged.adjudge(0);
        CHECK.fails("12, it is over by adjudging", SUPPORT, () -> adjudged.move(0, 1, 1));
        for (char result : RESULTS) {
            MindFest told = Fests.withGame('t');
            told.end(0, result);
            CHECK.fails("12, it is over by telling " + result, SUPPORT, () -> told.move(0, 0, 1));
        }
    }

    /** What a first move of so many seconds answers, and the time and the periods of the one who made it then. */
    private static String first(char kind, int base, int extra, int periods, int seconds) {
        MindFest fest = Fests.withGame('t', kind, base, extra, periods);
        return fest.move(0, 4, seconds) + " " + fest.time(0, true) + " " + fest.periods(0, true);
    }

    private static void delayAtItsEdges() {
        CHECK.is("'d', 0 seconds", first('d', 20, 5, 3, 0), "* 20 0");
        CHECK.is("'d', less than the extra", first('d', 20, 5, 3, 4), "* 20 0");
        CHECK.is("'d', the extra", first('d', 20, 5, 3, 5), "* 20 0");
        CHECK.is("'d', what is above the extra: 1", first('d', 20, 5, 3, 6), "* 19 0");
        CHECK.is("'d', all but 1", first('d', 20, 5, 3, 24), "* 1 0");
        CHECK.is("'d', all: the time would be 0", first('d', 20, 5, 3, 25), "* 0 0");
        CHECK.is("'d', the time would be below 0", first('d', 20, 5, 3, 26), "0 20 0");
        CHECK.is("'d', the widest: all", first('d', 600, 60, 3, 660), "* 0 0");
        CHECK.is("'d', the widest: below 0", first('d', 600, 60, 3, 661), "0 600 0");
        MindFest fest = Fests.withGame('t', 'd', 10, 2, 1);
        fest.move(0, 0, 12);
        fest.move(0, 1, 0);
        CHECK.is("'d', without time the extra is left", fest.move(0, 3, 2), '*');
        fest.move(0, 4, 0);
        CHECK.is("'d', without time more than the extra", fest.move(0, 5, 3), '0');
    }

    private static void incrementAtItsEdges() {
        CHECK.is("'i', 0 seconds", first('i', 20, 5, 3, 0), "* 25 0");
        CHECK.is("'i', 1 second", first('i', 20, 5, 3, 1), "* 24 0");
        CHECK.is("'i', the extra", first('i', 20, 5, 3, 5), "* 20 0");
        CHECK.is("'i', all but 1", first('i', 20, 5, 3, 19), "* 6 0");
        CHECK.is("'i', all: the time would be 0", first('i', 20, 5, 3, 20), "* 5 0");
        CHECK.is("'i', below 0, though the extra is more", first('i', 20, 5, 3, 21), "0 20 0");
        CHECK.is("'i', the widest: all", first('i', 600, 60, 3, 600), "* 60 0");
        CHECK.is("'i', the widest: below 0", first('i', 600, 60, 3, 601), "0 600 0");
        MindFest fest = Fests.withGame('t', 'i', 10, 1, 1);
        fest.move(0, 0, 10);
        fest.move(0, 1, 10);
        CHECK.is("'i', the extra is left", fest.move(0, 3, 1), '*');
        CHECK.is("'i', the extra again", fest.time(0, true), 1);
        CHECK.is("'i', more than the extra", fest.move(0, 4, 2), '1');
        CHECK.is("'i', no extra if the flag has fallen", fest.time(0, false), 1);
    }

    private static void periodsAtTheirEdges() {
        CHECK.is("'b', 0 seconds", first('b', 20, 5, 3, 0), "* 20 3");
        CHECK.is("'b', all but 1", first('b', 20, 5, 3, 19), "* 1 3");
        CHECK.is("'b', all: no period is lost", first('b', 20, 5, 3, 20), "* 0 3");
        CHECK.is("'b', 1 more: no whole extra", first('b', 20, 5, 3, 21), "* 0 3");
        CHECK.is("'b', less than an extra more", first('b', 20, 5, 3, 24), "* 0 3");
        CHECK.is("'b', a whole extra: a period is lost", first('b', 20, 5, 3, 25), "* 0 2");
        CHECK.is("'b', less than two extras", first('b', 20, 5, 3, 29), "* 0 2");
        CHECK.is("'b', two whole extras", first('b', 20, 5, 3, 30), "* 0 1");
        CHECK.is("'b', less than three extras: one is left", first('b', 20, 5, 3, 34), "* 0 1");
        CHECK.is("'b', as no period is left", first('b', 20, 5, 3, 35), "0 20 3");
        CHECK.is("'b', more than all", first('b', 20, 5, 3, 36), "0 20 3");
        CHECK.is("'b', one period: less than the extra", first('b', 10, 1, 1, 10), "* 0 1");
        CHECK.is("'b', one period: the extra", first('b', 10, 1, 1, 11), "0 10 1");
        CHECK.is("'b', the widest: one is left", first('b', 600, 60, 5, 899), "* 0 1");
        CHECK.is("'b', the widest: none is left", first('b', 600, 60, 5, 900), "0 600 5");
        CHECK.is("'b', the periods are not told in the time", first('b', 600, 60, 5, 1), "* 599 5");
    }

    private static void spentPeriods() {
        MindFest fest = Fests.withGame('t', 'b', 10, 5, 2);
        fest.move(0, 0, 10);
        fest.move(0, 1, 12);
        CHECK.is("'b', without time less than the extra", fest.move(0, 3, 4) + " " + fest.periods(0, true), "* 2");
        fest.move(0, 4, 4);
        CHECK.is("'b', parts of extras are not summed", fest.periods(0, false), 2);
        CHECK.is("'b', without time the extra", fest.move(0, 8, 5) + " " + fest.periods(0, true), "* 1");
        CHECK.is("'b', the time stays 0", fest.time(0, true), 0);
        CHECK.is("'b', without time two extras", fest.move(0, 6, 10), '1');
        CHECK.is("'b', periods stay", fest.periods(0, false), 2);
        CHECK.is("'b', time stays", fest.time(0, false), 0);
        MindFest last = Fests.withGame('n', 'b', 10, 5, 1);
        last.move(0, 1, 10);
        last.move(0, 1, 0);
        CHECK.is("'b', the last period, less than the extra", last.move(0, 1, 4), '*');
        last.move(0, 11, 0);
        CHECK.is("'b', the last period is lost", last.move(0, 11, 5), '0');
        CHECK.is("'b', periods stay as they were: 1", last.periods(0, true), 1);
    }

    private static void flagAndRows() {
        MindFest drawn = Fests.withMoves('t', 0, 1, 4, 2, 5, 3, 7, 6);
        CHECK.is("flag, no row of three is free of own marks", drawn.move(0, 8, 999), '=');
        MindFest lost = Fests.withMoves('t', 0, 1, 4, 2, 5, 3);
        CHECK.is("flag, the one row that is free would be taken by the move", lost.move(0, 7, 999), '0');
        CHECK.is("flag, without marks all rows are free", Fests.withGame('t').move(0, 4, 999), '0');
        CHECK.is("flag, of the other one", Fests.withMoves('t', 4).move(0, 0, 999), '1');
        CHECK.is("flag, by a move that would win", Fests.withMoves('t', 0, 3, 1, 4).move(0, 2, 999), '0');
        MindFest four = Fests.withMoves('t', 0, 1, 2, 4, 3, 5, 7, 6);
        CHECK.is("flag, four marks: in each row one", four.move(0, 8, 999), '=');
        MindFest free = Fests.withMoves('t', 0, 2, 1, 4, 3, 7, 5, 8);
        CHECK.is("flag, four marks: 6, 7 and 8 are free of them", free.move(0, 6, 999), '0');
        CHECK.is("flag, a row is free though the other one has no mark in it",
                Fests.withMoves('t', 0, 1, 4, 8).move(0, 2, 999), '0');
    }

    /** The moves of games in which one row alone stays free of marks of the one whose flag falls by the last move. */
    private static void flagAndEachRow() {
        int[][] rows = {{0, 1, 2}, {3, 4, 5}, {6, 7, 8}, {0, 3, 6}, {1, 4, 7}, {2, 5, 8}, {0, 4, 8}, {2, 4, 6}};
        for (int[] row : rows) {
            String name = row[0] + " " + row[1] + " " + row[2];
            int[] marks = blockingAllBut(row, rows);
            MindFest fest = withMarks(marks, row);
            CHECK.is("flag, the one free row is " + name, fest.move(0, row[2], 999), '0');
        }
    }

    /** Marks of the first one, no three of them in a row, that touch all rows but one. */
    private static int[] blockingAllBut(int[] free, int[][] rows) {
        for (int bits = 0; bits < 512; bits++) {
            boolean fits = !touches(bits, free);
            for (int[] row : rows) {
                fits = fits && (row == free || touches(bits, row)) && !fills(bits, row);
            }
            if (fits && Integer.bitCount(bits) <= 4) {
                return places(bits);
            }
        }
        throw new IllegalStateException("no marks touch all rows but one");
    }

    private static boolean touches(int bits, int[] row) {
        return (bits >> row[0] & 1) + (bits >> row[1] & 1) + (bits >> row[2] & 1) > 0;
    }

    private static boolean fills(int bits, int[] row) {
        return (bits >> row[0] & 1) + (bits >> row[1] & 1) + (bits >> row[2] & 1) == 3;
    }

    private static int[] places(int bits) {
        int[] places = new int[Integer.bitCount(bits)];
        int count = 0;
        for (int place = 0; place < 9; place++) {
            if ((bits >> place & 1) == 1) {
                places[count++] = place;
            }
        }
        return places;
    }

    private static MindFest withMarks(int[] marks, int[] free) {
        MindFest fest = Fests.withGame('t');
        for (int mark : marks) {
            CHECK.is("a mark of the first one", fest.move(0, mark, 1), '*');
            for (int place = 0; place < 9; place++) {
                boolean isKept = place == free[2];
                for (int own : marks) {
                    isKept |= place == own;
                }
                if (!isKept && fest.isLegal(0, place)) {
                    CHECK.is("a mark of the other one", fest.move(0, place, 1), '*');
                    break;
                }
            }
        }
        return fest;
    }

    private static void flagAndHeaps() {
        CHECK.is("flag, by heaps the other one wins", Fests.withGame('n').move(0, 1, 301), '0');
        CHECK.is("flag, by heaps the first one wins", Fests.withMoves('n', 3).move(0, 25, 301), '1');
        CHECK.is("flag, by taking the last one", Fests.withMoves('n', 3, 14).move(0, 25, 999), '0');
    }

    private static void flagChangesNothingElse() {
        MindFest fest = Fests.withGame('t', 'b', 20, 5, 3);
        fest.move(0, 0, 26);
        fest.move(0, 1, 7);
        CHECK.is("flag, the result then", fest.move(0, 2, 10), '0');
        CHECK.is("flag, time stays", fest.time(0, true), 0);
        CHECK.is("flag, periods stay", fest.periods(0, true), 2);
        CHECK.is("flag, time of the other one", fest.time(0, false), 13);
        CHECK.is("flag, periods of the other one", fest.periods(0, false), 3);
        CHECK.is("flag, result", fest.result(0), '0');
        CHECK.is("flag, points", fest.points(0, 1), 2);
        fest.day();
        CHECK.is("flag, it is no forfeit", fest.rated(0), 1);
    }

    private static void legalWhenOver() {
        for (char result : RESULTS) {
            MindFest fest = Fests.withGame('t');
            fest.end(0, result);
            CHECK.no("13, a game that goes on: not after " + result, fest.isLegal(0, 0));
        }
        CHECK.no("13, over by a row", Fests.withMoves('t', 0, 8, 1, 7, 2).isLegal(0, 3));
        CHECK.no("13, over by the flag", games().isLegal(2, 0));
        CHECK.yes("13, nothing is changed: asked", asked().isLegal(0, 4));
    }

    private static MindFest asked() {
        MindFest fest = Fests.withGame('t');
        fest.isLegal(0, 4);
        return fest;
    }

    private static void numbersOfGames() {
        for (int game : new int[]{-1, 4, 100, LEAST, MOST}) {
            GAMES.refuse("13, no such game: " + game, INDEX, fest -> fest.isLegal(game, 0));
            GAMES.refuse("14, no such game: " + game, INDEX, fest -> fest.time(game, true));
            GAMES.refuse("14, no such game, other: " + game, INDEX, fest -> fest.time(game, false));
            GAMES.refuse("15, no such game: " + game, INDEX, fest -> fest.periods(game, true));
            GAMES.refuse("15, no such game, other: " + game, INDEX, fest -> fest.periods(game, false));
            GAMES.refuse("18, no such game: " + game, INDEX, fest -> fest.best(game));
            GAMES.refuse("20, no such game: " + game, INDEX, fest -> fest.result(game));
        }
        Refusals none = new Refusals(CHECK, () -> Fests.ofPlayers(2));
        none.refuse("20, no such game, there being none", INDEX, fest -> fest.result(0));
        none.refuse("18, no such game, there being none", INDEX, fest -> fest.best(0));
        CHECK.is("15, 0 but for the clock 'b': 'd'", Fests.withGame('t', 'd', 20, 5, 5).periods(0, true), 0);
        CHECK.is("15, 0 but for the clock 'b': 'i'", Fests.withGame('t', 'i', 20, 5, 5).periods(0, false), 0);
        CHECK.is("15, 'b'", Fests.withGame('t', 'b', 20, 5, 5).periods(0, false), 5);
        CHECK.is("20, '*' if it goes on", games().result(0), '*');
        CHECK.is("20, the letter", games().result(2), '=');
    }

    private static void resultsTold() {
        for (char result : RESULTS) {
            MindFest fest = Fests.ofPlayers(4);
            fest.event('t', 1, 15);
            fest.event('t', 1, 15);
            fest.pair(0);
            fest.pair(1);
            CHECK.is("16, how many go on: 1, " + result, fest.end(0, result), 1);
            CHECK.is("16, how many go on: 0, " + result, fest.end(1, result), 0);
            CHECK.is("16, of its event: 1, " + result, fest.end(3, result), 1);
            CHECK.is("20, the letter " + result, fest.result(0), result);
            int due = "0-".indexOf(result) >= 0 ? 0 : result == '=' ? 1 : 2;
            CHECK.is("21, points of the first one by " + result, fest.points(0, 0), due);
            CHECK.is("21, points of the other one by " + result, fest.points(0, 1), 2 - due);
        }
        for (char result : new char[]{'1', '0', '+', '-'}) {
            MindFest fest = Fests.withGame('n');
            CHECK.is("16, of 'n': " + result, fest.end(0, result), 0);
            CHECK.is("20, of 'n': " + result, fest.result(0), result);
        }
    }

    private static void endRefused() {
        for (int game : new int[]{-1, 4, 100, LEAST, MOST}) {
            GAMES.refuse("16, no such game: " + game, INDEX, fest -> fest.end(game, '1'));
            GAMES.refuse("16, no such game goes first: " + game, INDEX, fest -> fest.end(game, 'x'));
        }
        for (char result : NO_RESULTS) {
            GAMES.refuse("16, no such result: " + (int) result, ARGUMENT, fest -> fest.end(0, result));
            GAMES.refuse("16, no such result goes ahead of over", ARGUMENT, fest -> fest.end(2, result));
        }
        GAMES.refuse("16, '=' for 'n'", ARGUMENT, fest -> fest.end(1, '='));
        GAMES.refuse("16, '=' for 'n' goes ahead of over", ARGUMENT, fest -> fest.end(3, '='));
        for (char result : RESULTS) {
            GAMES.refuse("16, it is over: " + result, SUPPORT, fest -> fest.end(2, result));
        }
        GAMES.refuse("16, it is over, of a closed event", SUPPORT, fest -> fest.end(3, '1'));
    }

    private static void adjudged() {
        CHECK.is("17, 't' from where it stands: at first", Fests.withGame('t').adjudge(0), '=');
        CHECK.is("17, 'n' from where it stands: at first", Fests.withGame('n').adjudge(0), '1');
        CHECK.is("17, one move ahead of a draw", Fests.withMoves('t', 0, 1, 2, 4, 3, 5, 7, 6).adjudge(0), '=');
        CHECK.is("17, one move ahead of a win", Fests.withMoves('t', 0, 1, 2, 3, 4, 5, 7, 6).adjudge(0), '1');
        CHECK.is("17, one is left of heaps", Fests.withMoves('n', 3, 14, 24).adjudge(0), '0');
        CHECK.is("17, a win being best: not a draw", Fests.withMoves('t', 4, 1).adjudge(0), '1');
        CHECK.is("17, a draw next: not a loss", Fests.withMoves('t', 4, 0).adjudge(0), '=');
        CHECK.is("17, best play of both: the other one wins", Fests.withMoves('t', 1, 4, 3, 0, 5).adjudge(0), '0');
        MindFest fest = Fests.withMoves('t', 4, 1);
        CHECK.is("18, what adjudging would give", fest.best(0), '1');
        CHECK.is("18, it goes on", fest.result(0), '*');
        fest.adjudge(0);
        CHECK.is("17, the result", fest.result(0), '1');
        CHECK.is("17, time stays", fest.time(0, true), 309);
    }

    private static void adjudgeRefused() {
        for (int game : new int[]{-1, 4, 100, LEAST, MOST}) {
            GAMES.refuse("17, no such game: " + game, INDEX, fest -> fest.adjudge(game));
        }
        GAMES.refuse("17, it is over", SUPPORT, fest -> fest.adjudge(2));
        GAMES.refuse("17, it is over, of a closed event", SUPPORT, fest -> fest.adjudge(3));
    }

    private static void bestWhenOver() {
        for (char result : RESULTS) {
            MindFest fest = Fests.withMoves('t', 4, 1);
            fest.end(0, result);
            CHECK.is("18, that which it has if it is over: " + result, fest.best(0), result);
            fest.correct(0, '0');
            CHECK.is("18, that which it has by now", fest.best(0), '0');
        }
    }

    private static void corrected() {
        for (char before : RESULTS) {
            for (char after : RESULTS) {
                MindFest fest = Fests.withGame('t');
                fest.end(0, before);
                CHECK.is("19, the one before", fest.correct(0, after), before);
                CHECK.is("20, the one after", fest.result(0), after);
                CHECK.is("19, the one before, again", fest.correct(0, before), after);
            }
        }
        MindFest moved = Fests.withMoves('n', 3, 14, 25);
        CHECK.is("19, of a game that was played", moved.correct(0, '-'), '1');
        CHECK.fails("19, it stays over", SUPPORT, () -> moved.end(0, '1'));
        MindFest late = Fests.ofPlayers(2);
        late.event('t', 2, 3);
        Fests.round(late, 0, '+');
        late.pair(0);
        CHECK.is("19, of a round ahead", late.correct(0, '-'), '+');
        CHECK.is("19, pairings made stay", Fests.pairOf(late, 1), "1-0");
    }

    private static void correctRefused() {
        for (int game : new int[]{-1, 4, 100, LEAST, MOST}) {
            GAMES.refuse("19, no such game: " + game, INDEX, fest -> fest.correct(game, '1'));
            GAMES.refuse("19, no such game goes first: " + game, INDEX, fest -> fest.correct(game, 'x'));
        }
        for (char result : NO_RESULTS) {
            GAMES.refuse("19, no such result: " + (int) result, ARGUMENT, fest -> fest.correct(2, result));
            GAMES.refuse("19, no such result goes ahead of going on", ARGUMENT, fest -> fest.correct(0, result));
            GAMES.refuse("19, no such result goes ahead of closed", ARGUMENT, fest -> fest.correct(3, result));
        }
        GAMES.refuse("19, '=' for 'n' goes ahead of going on", ARGUMENT, fest -> fest.correct(1, '='));
        GAMES.refuse("19, '=' for 'n' goes ahead of closed", ARGUMENT, fest -> fest.correct(3, '='));
        MIDWAY.refuse("19, '=' for 'n'", ARGUMENT, fest -> fest.correct(3, '='));
        GAMES.refuse("19, it goes on", SUPPORT, fest -> fest.correct(0, '1'));
        GAMES.refuse("19, it goes on, of 'n'", SUPPORT, fest -> fest.correct(1, '1'));
        GAMES.refuse("19, its event is closed", SUPPORT, fest -> fest.correct(3, '1'));
        GAMES.refuse("19, its event is closed, the same result", SUPPORT, fest -> fest.correct(3, '0'));
    }
}
