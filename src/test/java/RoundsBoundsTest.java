import java.util.NoSuchElementException;

/** The bounds that promises 8 to 11 and 25 name: pair, rounds, playerOf, bye, weight. */
public final class RoundsBoundsTest {
    private static final Class<IndexOutOfBoundsException> INDEX = IndexOutOfBoundsException.class;
    private static final Class<IllegalStateException> STATE = IllegalStateException.class;
    private static final Class<UnsupportedOperationException> SUPPORT = UnsupportedOperationException.class;
    private static final Class<NoSuchElementException> ELEMENT = NoSuchElementException.class;
    private static final int LEAST = Integer.MIN_VALUE;
    private static final int MOST = Integer.MAX_VALUE;
    private static final Check CHECK = new Check("RoundsBoundsTest");
    private static final Refusals MIDWAY = new Refusals(CHECK, Fests::midway);

    public static void main(String[] args) {
        sizesOfRounds();
        oneRound();
        sevenRounds();
        gamesThatGoOn();
        eachGameThatGoesOn();
        fewerThanTwo();
        bannedAsideAndBack();
        noWayByMeetings();
        noWayByByes();
        hundredGames();
        hundredAndOne();
        whatGoesAheadOfHundred();
        pairRefused();
        weightOfPoints();
        weightOfSides();
        weightOfLands();
        weightOfByes();
        leastWeight();
        lowestPartners();
        whoIsFirst();
        numbersOfGames();
        byeOfRounds();
        numbersRefused();
        CHECK.close();
    }

    /** How many games and byes the first round of so many has. */
    private static void sizesOfRounds() {
        for (int size = 2; size <= 10; size++) {
            int players = size;
            MindFest fest = Fests.ofPlayers(12);
            fest.event('t', 1, (1 << size) - 1);
            CHECK.is("8, its first game: " + size + " players", fest.pair(0), 0);
            CHECK.is("8, its last game: " + size, fest.result(size / 2 - 1), '*');
            CHECK.fails("8, no game more: " + size, INDEX, () -> fest.result(players / 2));
            CHECK.is("9, how many: 1", fest.rounds(0), 1);
            if (size % 2 == 1) {
                CHECK.is("11, if they are odd in number: " + size, fest.bye(0, 0), size - 1);
            } else {
                CHECK.fails("11, or nobody had: " + size, ELEMENT, () -> fest.bye(0, 0));
            }
        }
    }

    private static void oneRound() {
        Refusals one = new Refusals(CHECK, () -> {
            MindFest fest = Fests.ofPlayers(4);
            fest.event('t', 1, 15);
            Fests.round(fest, 0, '1');
            return fest;
        });
        one.refuse("8, all its rounds are paired: 1 of 1", SUPPORT, fest -> fest.pair(0));
        one.refuse("25, if it cannot be paired: 1 of 1", SUPPORT, fest -> fest.weight(0));
        MindFest two = Fests.ofPlayers(4);
        two.event('t', 2, 15);
        Fests.round(two, 0, '1');
        CHECK.is("8, a round is left: 1 of 2", two.pair(0), 2);
    }

    private static void sevenRounds() {
        MindFest fest = Fests.ofPlayers(10);
        fest.event('t', 7, 1023);
        for (int round = 0; round < 7; round++) {
            CHECK.is("9, how many", fest.rounds(0), round);
            int game = fest.pair(0);
            CHECK.is("8, its first game", game, 5 * round);
            for (int i = 0; i < 5; i++) {
                fest.end(game + i, '-');
            }
        }
        CHECK.is("9, how many: 7", fest.rounds(0), 7);
        CHECK.fails("8, all its rounds are paired: 7 of 7", SUPPORT, () -> fest.pair(0));
        CHECK.fails("25, if it cannot be paired: 7 of 7", SUPPORT, () -> fest.weight(0));
        CHECK.is("9, how many, 7 still", fest.rounds(0), 7);
    }

    private static void gamesThatGoOn() {
        Refusals going = new Refusals(CHECK, () -> {
            MindFest fest = Fests.ofPlayers(6);
            fest.event('t', 2, 63);
            fest.event('n', 2, 63);
            fest.pair(0);
            fest.end(0, '1');
            fest.end(1, '+');
            return fest;
        });
        going.refuse("8, one game of it goes on", SUPPORT, fest -> fest.pair(0));
        going.refuse("25, one game of it goes on", SUPPORT, fest -> fest.weight(0));
        MindFest fest = Fests.ofPlayers(6);
        fest.event('t', 2, 63);
        fest.event('n', 2, 63);
        fest.pair(0);
        CHECK.is("8, a game of another one goes on", fest.pair(1), 3);
        fest.end(0, '1');
        fest.end(1, '+');
        fest.end(2, '=');
        CHECK.is("8, all of the one ahead are over", fest.pair(0), 6);
    }

    /** The first game, one between, or the last one alone goes on: each keeps the event from its next step. */
    private static void eachGameThatGoesOn() {
        for (int going = 0; going < 3; going++) {
            int game = going;
            Refusals one = new Refusals(CHECK, () -> allOverBut(game));
            one.refuse("8, a game of it goes on: " + game, SUPPORT, fest -> fest.pair(0));
            one.refuse("25, a game of it goes on: " + game, SUPPORT, fest -> fest.weight(0));
            one.refuse("7, a game of it goes on: " + game, SUPPORT, fest -> fest.close(0));
            MindFest fest = allOverBut(game);
            CHECK.is("16, none goes on after game " + game, fest.end(game, '1'), 0);
            CHECK.is("7, no game of it goes on", fest.close(0), 0);
        }
    }

    private static MindFest allOverBut(int going) {
        MindFest fest = Fests.ofPlayers(6);
        fest.event('t', 2, 63);
        fest.pair(0);
        for (int game = 0; game < 3; game++) {
            if (game != going) {
                CHECK.is("16, how many of 3 go on", fest.end(game, '1') > 0, true);
            }
        }
        return fest;
    }

    private static void fewerThanTwo() {
        Refusals one = new Refusals(CHECK, () -> {
            MindFest fest = Fests.ofPlayers(3);
            fest.event('t', 2, 3);
            fest.withdraw(0, 0);
            return fest;
        });
        one.refuse("8, fewer than 2: one", SUPPORT, fest -> fest.pair(0));
        one.refuse("25, fewer than 2: one", SUPPORT, fest -> fest.weight(0));
        Refusals none = new Refusals(CHECK, () -> {
            MindFest fest = Fests.ofPlayers(3);
            fest.event('t', 2, 3);
            Fests.withdraw(fest, 0, 0, 1);
            return fest;
        });
        none.refuse("8, fewer than 2: none", SUPPORT, fest -> fest.pair(0));
        none.refuse("25, fewer than 2: none", SUPPORT, fest -> fest.weight(0));
        MindFest fest = Fests.ofPlayers(5);
        fest.event('t', 2, 31);
        Fests.withdraw(fest, 0, 0, 2, 4);
        CHECK.is("8, two of five are left", fest.pair(0), 0);
        CHECK.is("8, the two", Fests.pairOf(fest, 0), "1-3");
        CHECK.fails("11, of two nobody had", ELEMENT, () -> fest.bye(0, 0));
    }

    private static void bannedAsideAndBack() {
        Refusals banned = new Refusals(CHECK, () -> {
            MindFest fest = Fests.ofPlayers(4);
            fest.event('t', 2, 3);
            Fests.ban(fest, 1);
            return fest;
        });
        banned.refuse("8, not banned: one is left", SUPPORT, fest -> fest.pair(0));
        banned.refuse("25, not banned: one is left", SUPPORT, fest -> fest.weight(0));
        MindFest fest = Fests.ofPlayers(4);
        fest.event('t', 3, 7);
        Fests.ban(fest, 0);
        fest.pair(0);
        CHECK.is("8, not banned: two are left", Fests.pairOf(fest, 0), "1-2");
        Fests.ban(fest, 1);
        CHECK.is("8, who is banned then plays on", fest.end(0, '1'), 0);
        CHECK.fails("8, not banned: one is left of three", SUPPORT, () -> fest.pair(0));
        Fests.lift(fest, 0);
        CHECK.is("8, the ban is lifted", fest.pair(0), 1);
        CHECK.is("8, with who is not banned", Fests.pairOf(fest, 1), "2-0");
    }

    private static void noWayByMeetings() {
        Refusals met = new Refusals(CHECK, () -> {
            MindFest fest = Fests.ofPlayers(3);
            fest.event('t', 7, 3);
            fest.event('t', 7, 3);
            Fests.round(fest, 0, '=');
            return fest;
        });
        met.refuse("8, there is no way: two have met", SUPPORT, fest -> fest.pair(0));
        met.refuse("25, there is no way: two have met", SUPPORT, fest -> fest.weight(0));
        MindFest both = Fests.ofPlayers(2);
        both.event('t', 7, 3);
        both.event('t', 7, 3);
        Fests.round(both, 0, '=');
        CHECK.is("8, met in this event: not in another one", both.pair(1), 1);
        MindFest four = Fests.ofPlayers(4);
        four.event('t', 7, 15);
        for (int round = 0; round < 3; round++) {
            Fests.round(four, 0, '=');
        }
        CHECK.fails("8, there is no way: four after three rounds", SUPPORT, () -> four.pair(0));
        Fests.withdraw(four, 0, 3);
        CHECK.fails("8, there is no way: three who have met", SUPPORT, () -> four.pair(0));
        for (char result : new char[]{'+', '-', '1', '0', '='}) {
            MindFest fest = Fests.ofPlayers(2);
            fest.event('t', 7, 3);
            Fests.round(fest, 0, result);
            if (result == '+' || result == '-') {
                CHECK.is("8, games by forfeit aside: " + result, fest.pair(0), 1);
            } else {
                CHECK.fails("8, who have met: " + result, SUPPORT, () -> fest.pair(0));
            }
        }
    }

    private static void noWayByByes() {
        Refusals byes = new Refusals(CHECK, () -> {
            MindFest fest = Fests.ofPlayers(4);
            fest.event('t', 7, 7);
            for (int round = 0; round < 3; round++) {
                Fests.round(fest, 0, '+');
            }
            return fest;
        });
        byes.refuse("8, there is no way: three had a bye", SUPPORT, fest -> fest.pair(0));
        byes.refuse("25, there is no way: three had a bye", SUPPORT, fest -> fest.weight(0));
        MindFest two = Fests.ofPlayers(4);
        two.event('t', 7, 7);
        Fests.round(two, 0, '+');
        Fests.round(two, 0, '+');
        CHECK.is("8, one of three has had none", two.pair(0), 2);
        CHECK.is("11, has had none", two.bye(0, 2), 0);
        two.end(2, '+');
        two.withdraw(0, 1);
        CHECK.is("8, two who had a bye", two.pair(0), 3);
    }

    private static void hundredGames() {
        MindFest fest = Fests.hundredGames();
        CHECK.is("8, at most 100: the last one", fest.result(99), '+');
        CHECK.fails("8, at most 100: no game 100", INDEX, () -> fest.result(100));
        MindFest single = withGames(95, 4);
        CHECK.is("8, the hundredth alone", single.pair(3), 99);
        CHECK.is("8, the hundredth goes on", single.result(99), '*');
        MindFest even = withGames(95, 0);
        CHECK.is("25, from 95 to 100", even.weight(2) % 10, 0);
        CHECK.is("8, from 95 to 100", even.pair(2), 95);
        CHECK.is("8, the hundredth of five", even.result(99), '*');
    }

    /** So many games in rounds of five, in events 0 to 2, then so many in rounds of one, in event 3. */
    private static MindFest withGames(int byFives, int byOnes) {
        MindFest fest = Fests.ofPlayers(12);
        for (int i = 0; i < 3; i++) {
            fest.event('t', 7, 1023);
        }
        fest.event('n', 7, 3 << 10);
        for (int round = 0; round < byFives / 5; round++) {
            Fests.round(fest, round / 7, '+');
        }
        for (int round = 0; round < byOnes; round++) {
            Fests.round(fest, 3, '-');
        }
        return fest;
    }

    private static void hundredAndOne() {
        Refusals full = new Refusals(CHECK, Fests::hundredGames);
        full.refuse("8, more than 100: 101 by one", STATE, fest -> fest.pair(3));
        full.refuse("8, more than 100: 105 by five", STATE, fest -> fest.pair(2));
        full.refuse("25, cannot be paired: 101 by one", SUPPORT, fest -> fest.weight(3));
        full.refuse("25, cannot be paired: 105 by five", SUPPORT, fest -> fest.weight(2));
        Refusals nearly = new Refusals(CHECK, () -> withGames(95, 1));
        nearly.refuse("8, more than 100: 101 by five", STATE, fest -> fest.pair(2));
        nearly.refuse("25, cannot be paired: 101 by five", SUPPORT, fest -> fest.weight(2));
        Refusals but = new Refusals(CHECK, () -> withGames(95, 4));
        but.refuse("8, more than 100: 104 by five", STATE, fest -> fest.pair(2));
    }

    /** What keeps a round from being paired is thrown also where there would be more than 100 games. */
    private static void whatGoesAheadOfHundred() {
        Refusals full = new Refusals(CHECK, Fests::hundredGames);
        full.refuse("8, all rounds paired goes ahead of 100", SUPPORT, fest -> fest.pair(0));
        full.refuse("8, no such event goes ahead of 100", INDEX, fest -> fest.pair(4));
        MindFest closed = Fests.hundredGames();
        closed.close(3);
        CHECK.fails("8, closed goes ahead of 100", SUPPORT, () -> closed.pair(3));
        MindFest few = Fests.hundredGames();
        few.withdraw(3, 10);
        CHECK.fails("8, fewer than 2 goes ahead of 100", SUPPORT, () -> few.pair(3));
        MindFest going = withGames(95, 4);
        going.pair(3);
        CHECK.fails("8, a game that goes on goes ahead of 100", SUPPORT, () -> going.pair(3));
        MindFest met = withGames(95, 4);
        met.pair(3);
        met.end(99, '1');
        CHECK.fails("8, no way goes ahead of 100", SUPPORT, () -> met.pair(3));
        met.correct(99, '-');
        CHECK.fails("8, a way, but more than 100", STATE, () -> met.pair(3));
    }

    private static void pairRefused() {
        for (int event : new int[]{-1, 3, 4, LEAST, MOST}) {
            MIDWAY.refuse("8, no such event: " + event, INDEX, fest -> fest.pair(event));
            MIDWAY.refuse("25, no such event: " + event, INDEX, fest -> fest.weight(event));
        }
        MIDWAY.refuse("8, the event is closed", SUPPORT, fest -> fest.pair(0));
        MIDWAY.refuse("25, the event is closed", SUPPORT, fest -> fest.weight(0));
        Refusals open = new Refusals(CHECK, () -> {
            MindFest fest = Fests.ofPlayers(4);
            fest.event('t', 2, 15);
            fest.close(0);
            return fest;
        });
        open.refuse("8, the event is closed, with rounds left", SUPPORT, fest -> fest.pair(0));
        open.refuse("25, the event is closed, with rounds left", SUPPORT, fest -> fest.weight(0));
    }

    /** Of two players the first one has won so many rounds by forfeit; the weight of the next one is told. */
    private static int weightApart(int rounds) {
        MindFest fest = Fests.ofPlayers(2);
        fest.event('n', 7, 3);
        for (int round = 0; round < rounds; round++) {
            int game = fest.pair(0);
            fest.end(game, fest.playerOf(game, true) == 0 ? '+' : '-');
        }
        return fest.weight(0);
    }

    private static void weightOfPoints() {
        CHECK.is("25, 100 times the square: of 0", weightApart(0), 0);
        CHECK.is("25, 100 times the square: of 2", weightApart(1), 400);
        CHECK.is("25, 100 times the square: of 4", weightApart(2), 1600);
        CHECK.is("25, 100 times the square: of 12, the most", weightApart(6), 14400);
        MindFest fest = Fests.ofPlayers(3);
        fest.event('t', 7, 3);
        Fests.round(fest, 0, '=');
        fest.withdraw(0, 1);
        fest.join(0, 2);
        CHECK.is("25, 100 times the square: of 1", fest.weight(0), 100);
        CHECK.is("25, asked again", fest.weight(0), 100);
        CHECK.is("25, nothing is paired by it", fest.rounds(0), 1);
    }

    /** Four players, 0 and 2 were first, 1 and 3 second; the weight of those two who are left is told. */
    private static int weightOfTwo(char result, int one, int other) {
        MindFest fest = Fests.ofPlayers(5);
        fest.event('t', 7, 15);
        Fests.round(fest, 0, result);
        fest.join(0, 4);
        for (int player = 0; player < 5; player++) {
            if (player != one && player != other) {
                fest.withdraw(0, player);
            }
        }
        return fest.weight(0);
    }

    private static void weightOfSides() {
        CHECK.is("25, 10 if both have been first more often", weightOfTwo('=', 0, 2), 10);
        CHECK.is("25, 10 if both less often", weightOfTwo('=', 1, 3), 10);
        CHECK.is("25, one more often, one less often", weightOfTwo('=', 0, 3), 0);
        CHECK.is("25, one more often, one as often", weightOfTwo('=', 0, 4), 100);
        CHECK.is("25, one less often, one as often", weightOfTwo('=', 1, 4), 100);
        CHECK.is("25, whatever came of the games: by forfeit, first", weightOfTwo('+', 0, 2), 10);
        CHECK.is("25, whatever came of the games: by forfeit, second", weightOfTwo('-', 1, 3), 10);
        CHECK.is("25, whatever came of the games: a win", weightOfTwo('1', 0, 2), 10);
        MindFest even = Fests.ofPlayers(2);
        even.event('t', 7, 3);
        Fests.round(even, 0, '+');
        CHECK.is("25, one was first, one second", even.weight(0), 400);
        Fests.round(even, 0, '+');
        CHECK.is("25, both as often first as second", even.weight(0), 0);
        MindFest other = Fests.ofPlayers(4);
        other.event('t', 7, 3);
        other.event('t', 7, 12);
        other.event('t', 7, 5);
        Fests.round(other, 0, '=');
        Fests.round(other, 1, '=');
        CHECK.is("25, in this event: not in others", other.weight(2), 0);
    }

    private static void weightOfLands() {
        MindFest fest = new MindFest();
        fest.player(1500, 0);
        fest.player(1500, 0);
        fest.player(1500, 9);
        fest.player(1500, 9);
        fest.player(1500, 1);
        fest.event('t', 7, 3);
        fest.event('t', 7, 12);
        fest.event('t', 7, 20);
        CHECK.is("25, 1 if they are of one land: 0", fest.weight(0), 1);
        CHECK.is("25, 1 if they are of one land: 9", fest.weight(1), 1);
        CHECK.is("25, of unlike lands", fest.weight(2), 0);
        MindFest all = new MindFest();
        for (int i = 0; i < 10; i++) {
            all.player(1500, 5);
        }
        all.event('t', 7, 1023);
        CHECK.is("25, 1 for each pair of one land", all.weight(0), 5);
        MindFest three = new MindFest();
        for (int i = 0; i < 3; i++) {
            three.player(1500, 5);
        }
        three.event('t', 7, 7);
        CHECK.is("25, the bye has no land", three.weight(0), 1);
    }

    private static void weightOfByes() {
        MindFest fest = Fests.ofPlayers(3);
        fest.event('t', 7, 7);
        CHECK.is("25, a bye: 50 times 0 points", fest.weight(0), 0);
        fest.pair(0);
        fest.end(0, '=');
        CHECK.is("25, a bye: 50 times 1, and 100", fest.weight(0), 150);
        fest.correct(0, '1');
        CHECK.is("25, a bye: 50 times 0, and 0", fest.weight(0), 0);
        Fests.round(fest, 0, '-');
        CHECK.is("25, the last bye: 50 times the points", fest.weight(0), 50 * fest.points(0, 0)
                + 100 * (fest.points(0, 1) - fest.points(0, 2)) * (fest.points(0, 1) - fest.points(0, 2)));
    }

    /** A bye of 100 against pairs of 10: what is least in sum is taken, not what is least for the lowest player. */
    private static void leastWeight() {
        MindFest fest = new MindFest();
        fest.player(1500, 0);
        fest.player(1500, 0);
        fest.player(1500, 1);
        fest.player(1500, 2);
        fest.event('t', 7, 15);
        CHECK.is("8, the least weight: 0 and 1 are of one land", fest.weight(0), 0);
        fest.pair(0);
        CHECK.is("8, the least weight: 0 with 2", Fests.pairOf(fest, 0), "0-2");
        CHECK.is("8, the least weight: 1 with 3", Fests.pairOf(fest, 1), "1-3");
        MindFest lands = new MindFest();
        for (int land : new int[]{0, 1, 1, 0}) {
            lands.player(1500, land);
        }
        lands.event('t', 7, 15);
        Fests.round(lands, 0, '=');
        CHECK.is("8, sides go ahead of lands: 1 twice, not 10 twice", lands.weight(0), 2);
        MindFest points = Fests.ofPlayers(4);
        points.event('t', 7, 15);
        points.pair(0);
        points.end(0, '1');
        points.end(1, '1');
        CHECK.is("8, points go ahead of sides: 10 twice", points.weight(0), 20);
        MindFest draws = Fests.ofPlayers(4);
        draws.event('t', 7, 15);
        Fests.round(draws, 0, '=');
        CHECK.is("8, sides go ahead of numbers", draws.weight(0), 0);
        draws.pair(0);
        CHECK.is("8, sides go ahead of numbers: 0 with 3", Fests.pairOf(draws, 2), "3-0");
        CHECK.is("8, sides go ahead of numbers: 1 with 2", Fests.pairOf(draws, 3), "1-2");
    }

    private static void lowestPartners() {
        MindFest ten = Fests.ofPlayers(12);
        ten.event('t', 7, 1023);
        ten.pair(0);
        for (int game = 0; game < 5; game++) {
            CHECK.is("8, whose partner is the lowest", Fests.pairOf(ten, game), 2 * game + "-" + (2 * game + 1));
        }
        MindFest nine = Fests.ofPlayers(12);
        nine.event('t', 7, 511 << 3);
        nine.pair(0);
        CHECK.is("8, the bye counts as the highest partner", nine.bye(0, 0), 11);
        CHECK.is("8, then of the next one", Fests.pairOf(nine, 3), "9-10");
        MindFest three = Fests.ofPlayers(3);
        three.event('t', 7, 7);
        Fests.round(three, 0, '=');
        CHECK.is("8, 0 with 2 or the bye for 0, both 150", three.weight(0), 150);
        three.pair(0);
        CHECK.is("8, the bye is higher than 2", three.bye(0, 1), 1);
    }

    /** Others are banned, so that just the two are paired; all games are forfeits, so that all may meet again. */
    private static String nextOf(MindFest fest, int... banned) {
        Fests.ban(fest, banned);
        int game = fest.pair(0);
        String pair = Fests.pairOf(fest, game);
        fest.end(game, '+');
        Fests.lift(fest, banned);
        return pair;
    }

    private static void whoIsFirst() {
        MindFest fest = Fests.ofPlayers(6);
        fest.event('t', 7, 63);
        Fests.round(fest, 0, '+');
        CHECK.is("8, of like ones the lower number: 0 and 0", Fests.pairOf(fest, 0), "0-1");
        CHECK.is("8, of like ones the lower number: 1 and 1", nextOf(fest, 1, 3, 4, 5), "0-2");
        CHECK.is("8, first less often by more: 2 and 1", nextOf(fest, 1, 2, 3, 5), "4-0");
        CHECK.is("8, of like ones the lower number: -1 and -1", nextOf(fest, 0, 1, 2, 4), "3-5");
        CHECK.is("8, first less often by more: -1 and -2", nextOf(fest, 0, 2, 3, 4), "5-1");
        CHECK.is("8, first less often by more: 1 and 0", nextOf(fest, 1, 3, 4, 5), "2-0");
        MindFest two = Fests.ofPlayers(2);
        two.event('t', 7, 3);
        String pairs = "";
        for (int round = 0; round < 4; round++) {
            pairs += Fests.pairOf(two, two.pair(0)) + " ";
            two.end(round, '-');
        }
        CHECK.is("8, in turns", pairs, "0-1 1-0 0-1 1-0 ");
    }

    private static void numbersOfGames() {
        MindFest fest = Fests.ofPlayers(12);
        fest.event('t', 7, 15);
        fest.event('n', 7, 15 << 8);
        CHECK.is("8, numbers from 0 on", fest.pair(0), 0);
        CHECK.is("8, the next event's first game", fest.pair(1), 2);
        CHECK.is("10, game 2", Fests.pairOf(fest, 2), "8-9");
        CHECK.is("10, game 3", Fests.pairOf(fest, 3), "10-11");
        fest.end(0, '=');
        fest.end(1, '=');
        CHECK.is("8, the next round's first game", fest.pair(0), 4);
        CHECK.is("8, games go by the lower player: 0, who is second", Fests.pairOf(fest, 4), "3-0");
        CHECK.is("8, games go by the lower player: 1", Fests.pairOf(fest, 5), "1-2");
    }

    private static void byeOfRounds() {
        MindFest fest = Fests.ofPlayers(7);
        fest.event('t', 7, 127);
        CHECK.fails("11, no such round: 0, none being paired", ELEMENT, () -> fest.bye(0, 0));
        int had = 0;
        for (int r = 0; r < 7; r++) {
            int round = r;
            CHECK.fails("11, no such round: the next one", ELEMENT, () -> fest.bye(0, round));
            Fests.round(fest, 0, '+');
            had |= 1 << fest.bye(0, round);
        }
        CHECK.is("11, each one once in 7 rounds", had, 127);
        for (int round : new int[]{-1, 7, 8, 32, LEAST, MOST}) {
            CHECK.fails("11, no such round: " + round, ELEMENT, () -> fest.bye(0, round));
        }
        MindFest mixed = Fests.ofPlayers(4);
        mixed.event('t', 7, 7);
        Fests.round(mixed, 0, '+');
        mixed.join(0, 3);
        Fests.round(mixed, 0, '+');
        CHECK.is("11, the round of three", mixed.bye(0, 0), 2);
        CHECK.fails("11, nobody had in the round of four", ELEMENT, () -> mixed.bye(0, 1));
    }

    private static void numbersRefused() {
        for (int number : new int[]{-1, 3, 4, LEAST, MOST}) {
            MIDWAY.refuse("9, no such event: " + number, INDEX, fest -> fest.rounds(number));
            MIDWAY.refuse("11, no such event: " + number, INDEX, fest -> fest.bye(number, 0));
            MIDWAY.refuse("11, no such event goes first: " + number, INDEX, fest -> fest.bye(number, -1));
        }
        for (int number : new int[]{-1, 4, 100, LEAST, MOST}) {
            MIDWAY.refuse("10, no such game: " + number, INDEX, fest -> fest.playerOf(number, true));
            MIDWAY.refuse("10, no such game: " + number, INDEX, fest -> fest.playerOf(number, false));
        }
        MIDWAY.refuse("11, nobody had", ELEMENT, fest -> fest.bye(0, 0));
        MIDWAY.refuse("11, no such round", ELEMENT, fest -> fest.bye(2, 0));
    }
}
