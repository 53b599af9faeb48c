import java.util.NoSuchElementException;

/** Promises 8 to 11 and 25: pair, rounds, playerOf, bye, weight. */
public final class PairingTest {
    private static final Class<IndexOutOfBoundsException> INDEX = IndexOutOfBoundsException.class;
    private static final Class<IllegalStateException> STATE = IllegalStateException.class;
    private static final Class<UnsupportedOperationException> SUPPORT = UnsupportedOperationException.class;
    private static final Class<NoSuchElementException> ELEMENT = NoSuchElementException.class;
    private static final Check CHECK = new Check("PairingTest");

    public static void main(String[] args) {
        threeRoundsOfFour();
        wrongCalls();
        lands();
        byes();
        nobodyHasTwoByes();
        byeInTheMiddle();
        forfeitsAreNoMeetings();
        withdrawnAndBanned();
        weightOfBye();
        moreThanHundredGames();
        fewGamesLeft();
        CHECK.close();
    }

    private static void game(MindFest fest, int game, int first, int second) {
        CHECK.is("who is first in game " + game, fest.playerOf(game, true), first);
        CHECK.is("who is second in game " + game, fest.playerOf(game, false), second);
    }

    private static void threeRoundsOfFour() {
        MindFest fest = Fests.ofPlayers(4);
        fest.event('t', 7, 15);
        CHECK.is("rounds at first", fest.rounds(0), 0);
        CHECK.is("weight of the first round", fest.weight(0), 0);
        CHECK.is("the first round", fest.pair(0), 0);
        game(fest, 0, 0, 1);
        game(fest, 1, 2, 3);
        fest.end(0, '1');
        CHECK.fails("a game goes on", SUPPORT, () -> fest.pair(0));
        CHECK.fails("no weight while a game goes on", SUPPORT, () -> fest.weight(0));
        fest.end(1, '1');
        CHECK.is("both first, and both second", fest.weight(0), 20);
        CHECK.is("the second round", fest.pair(0), 2);
        game(fest, 2, 0, 2);
        game(fest, 3, 1, 3);
        fest.end(2, '=');
        fest.end(3, '=');
        CHECK.is("two who are apart by 2, twice", fest.weight(0), 800);
        CHECK.is("the third round", fest.pair(0), 4);
        game(fest, 4, 3, 0);
        game(fest, 5, 1, 2);
        fest.end(4, '1');
        fest.end(5, '1');
        CHECK.is("rounds then", fest.rounds(0), 3);
        CHECK.fails("all have met", SUPPORT, () -> fest.pair(0));
        CHECK.fails("no weight when all have met", SUPPORT, () -> fest.weight(0));
        CHECK.is("no round was paired", fest.rounds(0), 3);
    }

    private static void wrongCalls() {
        MindFest fest = Fests.ofPlayers(4);
        fest.event('t', 1, 3);
        CHECK.fails("pair(-1)", INDEX, () -> fest.pair(-1));
        CHECK.fails("pair(1)", INDEX, () -> fest.pair(1));
        CHECK.fails("weight(1)", INDEX, () -> fest.weight(1));
        CHECK.fails("weight(-1)", INDEX, () -> fest.weight(-1));
        CHECK.fails("rounds(1)", INDEX, () -> fest.rounds(1));
        CHECK.fails("rounds(-1)", INDEX, () -> fest.rounds(-1));
        CHECK.fails("playerOf(0, true) without games", INDEX, () -> fest.playerOf(0, true));
        fest.pair(0);
        CHECK.fails("playerOf(1, true)", INDEX, () -> fest.playerOf(1, true));
        CHECK.fails("playerOf(-1, false)", INDEX, () -> fest.playerOf(-1, false));
        fest.end(0, '+');
        CHECK.fails("all rounds are paired", SUPPORT, () -> fest.pair(0));
        CHECK.fails("no weight when all rounds are paired", SUPPORT, () -> fest.weight(0));
        fest.event('t', 2, 3);
        fest.close(1);
        CHECK.fails("a closed event", SUPPORT, () -> fest.pair(1));
        CHECK.fails("no weight of a closed event", SUPPORT, () -> fest.weight(1));
    }

    private static void lands() {
        MindFest fest = new MindFest();
        fest.player(1500, 3);
        fest.player(1500, 3);
        fest.player(1500, 5);
        fest.player(1500, 5);
        fest.event('n', 3, 15);
        CHECK.is("others by lands", fest.weight(0), 0);
        fest.pair(0);
        game(fest, 0, 0, 2);
        game(fest, 1, 1, 3);
        fest.end(0, '1');
        fest.end(1, '0');
        CHECK.is("one of like points", fest.weight(0), 0);
        fest.pair(0);
        game(fest, 2, 3, 0);
        game(fest, 3, 2, 1);
        fest.end(2, '0');
        fest.end(3, '1');
        CHECK.is("of one land, apart by 4 and 2 points less", fest.weight(0), 100 * 16 + 1 + 1);
    }

    private static void byes() {
        MindFest fest = Fests.ofPlayers(3);
        fest.event('t', 7, 7);
        CHECK.fails("bye(1, 0)", INDEX, () -> fest.bye(1, 0));
        CHECK.fails("bye(-1, 0)", INDEX, () -> fest.bye(-1, 0));
        CHECK.fails("no round yet", ELEMENT, () -> fest.bye(0, 0));
        fest.pair(0);
        CHECK.is("the bye counts as the highest", fest.bye(0, 0), 2);
        CHECK.fails("round 1", ELEMENT, () -> fest.bye(0, 1));
        CHECK.fails("round -1", ELEMENT, () -> fest.bye(0, -1));
        CHECK.is("points of a bye", fest.points(0, 2), 2);
        fest.end(0, '1');
        CHECK.is("the bye for the one without points", fest.weight(0), 0);
        CHECK.is("game 1", fest.pair(0), 1);
        CHECK.is("the second bye", fest.bye(0, 1), 1);
        game(fest, 1, 2, 0);
        fest.end(1, '1');
        CHECK.is("who has had none", fest.weight(0), 50 * 2 + 100 * 4);
        fest.pair(0);
        CHECK.is("the third bye", fest.bye(0, 2), 0);
        game(fest, 2, 1, 2);
        fest.end(2, '=');
        CHECK.fails("all had a bye", SUPPORT, () -> fest.pair(0));
        MindFest even = Fests.withGame('t');
        CHECK.fails("nobody had it", ELEMENT, () -> even.bye(0, 0));
    }

    /** By forfeits nobody meets, so byes alone bring the rounds of three to an end. */
    private static void nobodyHasTwoByes() {
        MindFest fest = Fests.ofPlayers(3);
        fest.event('t', 7, 7);
        String byes = "";
        for (int round = 0; round < 3; round++) {
            fest.end(fest.pair(0), '+');
            byes += fest.bye(0, round);
        }
        CHECK.is("each one once", byes, "210");
        CHECK.fails("nobody twice", SUPPORT, () -> fest.pair(0));
        fest.player(1500, 5);
        fest.join(0, 3);
        fest.pair(0);
        CHECK.fails("four of them, no bye", ELEMENT, () -> fest.bye(0, 3));
    }

    /** The bye of 0 or of 2 makes 110; with that of 2 the partner of 0 is lower than the bye. */
    private static void byeInTheMiddle() {
        MindFest fest = Fests.ofPlayers(5);
        fest.event('t', 7, 31);
        fest.pair(0);
        fest.end(0, '1');
        fest.end(1, '1');
        CHECK.is("100 for the bye, 10 for 1 and 3", fest.weight(0), 110);
        fest.pair(0);
        CHECK.is("the bye", fest.bye(0, 1), 2);
        game(fest, 2, 4, 0);
        game(fest, 3, 1, 3);
    }

    private static void forfeitsAreNoMeetings() {
        MindFest fest = Fests.ofPlayers(2);
        fest.event('t', 3, 3);
        fest.pair(0);
        fest.end(0, '-');
        CHECK.is("apart by 2", fest.weight(0), 400);
        CHECK.is("again", fest.pair(0), 1);
        game(fest, 1, 1, 0);
        fest.end(1, '=');
        CHECK.fails("met now", SUPPORT, () -> fest.pair(0));
        fest.correct(1, '+');
        CHECK.is("not met any more", fest.pair(0), 2);
        game(fest, 2, 0, 1);
    }

    private static void withdrawnAndBanned() {
        MindFest fest = Fests.ofPlayers(4);
        fest.event('t', 3, 15);
        fest.withdraw(0, 1);
        fest.agree(0, 20, 20);
        fest.suspect(0, 1);
        fest.suspect(0, 2);
        CHECK.yes("banned", fest.isBanned(0));
        fest.pair(0);
        game(fest, 0, 2, 3);
        CHECK.fails("only one game", INDEX, () -> fest.result(1));
        fest.end(0, '+');
        fest.withdraw(0, 3);
        CHECK.fails("fewer than 2", SUPPORT, () -> fest.pair(0));
        CHECK.fails("no weight of fewer than 2", SUPPORT, () -> fest.weight(0));
        fest.lift(0);
        CHECK.is("the ban is lifted", fest.pair(0), 1);
        game(fest, 1, 0, 2);
    }

    /** After a bye and a draw the bye of the one with 1 point costs 50. */
    private static void weightOfBye() {
        MindFest fest = Fests.ofPlayers(3);
        fest.event('t', 7, 7);
        fest.pair(0);
        fest.end(0, '=');
        CHECK.is("a bye of 50, a pair of 100", fest.weight(0), 150);
        fest.pair(0);
        CHECK.is("of like weights the lowest partner of the lowest", fest.bye(0, 1), 1);
    }

    private static MindFest ofHundredGames() {
        MindFest fest = Fests.ofPlayers(12);
        for (int i = 0; i < 3; i++) {
            fest.event('t', 7, 1023);
        }
        fest.event('n', 7, 3 << 10);
        for (int round = 0; round < 20; round++) {
            int game = fest.pair(round / 7);
            CHECK.is("the first game of round " + round, game, 5 * round);
            for (int i = 0; i < 5; i++) {
                fest.end(game + i, '+');
            }
        }
        return fest;
    }

    private static void moreThanHundredGames() {
        MindFest fest = ofHundredGames();
        CHECK.is("game 99", fest.result(99), '+');
        CHECK.fails("game 100", INDEX, () -> fest.result(100));
        CHECK.fails("a round of five", STATE, () -> fest.pair(2));
        CHECK.fails("a round of one", STATE, () -> fest.pair(3));
        CHECK.fails("the weight of what cannot be paired", SUPPORT, () -> fest.weight(3));
        CHECK.fails("all rounds paired goes first", SUPPORT, () -> fest.pair(0));
        CHECK.is("no round was paired", fest.rounds(2), 6);
        CHECK.is("no round was paired", fest.rounds(3), 0);
    }

    /** With 4 games of another event ahead, 95 of 99 games leave room for one game, not for five. */
    private static void fewGamesLeft() {
        MindFest fest = Fests.ofPlayers(12);
        for (int i = 0; i < 3; i++) {
            fest.event('t', 7, 1023);
        }
        fest.event('n', 7, 3 << 10);
        for (int round = 0; round < 23; round++) {
            int event = round < 4 ? 3 : (round - 4) / 7;
            int game = fest.pair(event);
            for (int i = 0; i < (event == 3 ? 1 : 5); i++) {
                fest.end(game + i, '-');
            }
        }
        CHECK.fails("five games more", STATE, () -> fest.pair(2));
        CHECK.fails("the weight of five games more", SUPPORT, () -> fest.weight(2));
        CHECK.is("one game more", fest.pair(3), 99);
    }
}
