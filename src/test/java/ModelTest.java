import java.util.ArrayList;
import java.util.List;
import java.util.Map;
import java.util.Random;
import java.util.TreeMap;

/**
 * Runs of 512 random calls, each put to MindFest and to Model; both must answer the same or throw the same. An
 * argument is wrong now and then. The runs are the same each time, for their seeds are.
 */
public final class ModelTest {
    private static final int RUNS = 400;
    private static final int CALLS = 512;
    private static final int[] WILD = {-1, -2, -5, 13, 99, 100, 1000, Integer.MIN_VALUE, Integer.MAX_VALUE, 4, 12, 32};

    private static final Map<String, Integer> SEEN = new TreeMap<>();

    private final int seed;
    private final Random random;
    private final MindFest fest = new MindFest();
    private final Model model = new Model();
    private final StringBuilder told = new StringBuilder();
    private final int wildness;
    private final int strength;
    private final boolean isHasty;
    private boolean wrong;

    private ModelTest(int seed) {
        this.seed = seed;
        random = new Random(seed);
        wildness = new int[]{0, 4, 15}[random.nextInt(3)];
        strength = seed % 6 == 0 ? 0 : random.nextInt(5);
        isHasty = seed % 3 == 0;
    }

    public static void main(String[] args) {
        int failures = 0;
        for (int seed = 0; seed < RUNS && failures < 3; seed++) {
            ModelTest run = new ModelTest(seed);
            for (int call = 0; call < CALLS && !run.wrong; call++) {
                run.step(call);
            }
            failures += run.wrong ? 1 : 0;
        }
        failures += lookForRareAnswers();
        if (args.length > 0) {
            SEEN.forEach((answer, times) -> System.out.println(answer + " " + times));
        }
        System.out.println("ModelTest: " + RUNS + " runs of " + CALLS + " calls, " + failures + " failures");
        if (failures > 0) {
            System.exit(1);
        }
    }

    /** The runs must have come where things are seldom: else they have looked at less than they are for. */
    private static int lookForRareAnswers() {
        int missing = 0;
        for (String answer : new String[]{"isTitled true", "isSound false", "pair IllegalStateException", "norms 2",
            "isBanned true", "join IllegalStateException", "prize IllegalStateException", "rated 5", "bye 3",
            "agree IllegalStateException", "event IllegalStateException", "player IllegalStateException",
            "weight UnsupportedOperationException", "best =", "best 1", "best 0", "adjudge ="}) {
            if (!SEEN.containsKey(answer)) {
                System.out.println("ModelTest: no run had the answer " + answer);
                missing++;
            }
        }
        return missing;
    }

    private static String answer(Check.Call call) {
        try {
            return String.valueOf(call.run());
        } catch (RuntimeException thrown) {
            boolean isMachines = "/ by zero".equals(thrown.getMessage());
            return isMachines ? "the machine's " + thrown : thrown.getClass().getSimpleName();
        }
    }

    private void put(String name, String arguments, Check.Call real, Check.Call due) {
        String want = answer(due);
        String got = answer(real);
        SEEN.merge(name + " " + (want.matches("-?[0-9].{1,}") ? "..." : want), 1, Integer::sum);
        told.append(name).append(arguments).append(" = ").append(want).append('\n');
        if (!want.equals(got)) {
            wrong = true;
            System.out.println("ModelTest: seed " + seed + ": " + name + arguments + " answered " + got + ", due is "
                    + want + ", after");
            System.out.println(told);
        }
    }

    private boolean isWild() {
        return random.nextInt(100) < wildness;
    }

    private int upTo(int count) {
        return isWild() || count == 0 ? WILD[random.nextInt(WILD.length)] : random.nextInt(count);
    }

    private int between(int low, int high) {
        if (!isWild()) {
            return low + random.nextInt(high - low + 1);
        }
        int[] edges = {low - 1, low, high, high + 1, WILD[random.nextInt(WILD.length)]};
        return edges[random.nextInt(edges.length)];
    }

    private char oneOf(String letters) {
        return isWild() ? "tndib10=+-*x ".charAt(random.nextInt(13)) : letters.charAt(random.nextInt(letters.length()));
    }

    private void step(int call) {
        boolean isLate = model.persons.size() >= 12 && random.nextInt(4) > 0;
        if (call < (isHasty ? 11 : 6) || !isLate && random.nextInt(25) == 0) {
            addPlayer();
        } else if (model.cups.isEmpty() || random.nextInt(model.cups.size() < 4 ? 40 : 160) == 0) {
            addEvent();
        } else {
            act();
        }
    }

    private void act() {
        int choice = random.nextInt(100);
        if (isHasty && choice < 70) {
            hurry();
        } else if (choice < 18) {
            pair();
        } else if (choice < 50) {
            play();
        } else if (choice < 56) {
            day();
        } else if (choice < 66) {
            changeEvent();
        } else if (choice < 72) {
            changePlayer();
        } else if (choice < 85) {
            lookAtEvent();
        } else if (choice < 93) {
            lookAtPlayer();
        } else {
            lookAtAll();
        }
    }

    private void addPlayer() {
        int rating = strength < 3 ? between(1700, 2500) : between(100, 3000);
        int land = between(0, strength < 2 ? 9 : 2);
        put("player", List.of(rating, land).toString(), () -> fest.player(rating, land),
                () -> model.player(rating, land));
    }

    private void addEvent() {
        char game = oneOf("tn");
        int rounds = isHasty ? 7 : between(1, 7);
        int players = 0;
        for (int p = 0; p < model.persons.size(); p++) {
            players |= random.nextInt(6) > 0 && (!isHasty || Integer.bitCount(players) < 10) ? 1 << p : 0;
        }
        players |= isWild() ? 1 << random.nextInt(32) : 0;
        int bits = players;
        put("event", List.of(game, rounds, bits).toString(), () -> fest.event(game, rounds, bits),
                () -> model.event(game, rounds, bits));
        if (random.nextBoolean()) {
            setClock(model.cups.size() - 1);
        }
    }

    private void setClock(int event) {
        char kind = oneOf("dib");
        int base = random.nextBoolean() ? between(10, 600) : between(10, 30);
        int extra = between(1, random.nextBoolean() ? 60 : 6);
        int periods = between(1, 5);
        put("clock", List.of(event, kind, base, extra, periods).toString(),
                () -> fest.clock(event, kind, base, extra, periods),
                () -> model.clock(event, kind, base, extra, periods));
    }

    private int anEvent() {
        return upTo(model.cups.size());
    }

    private int aPlayer() {
        return upTo(model.persons.size());
    }

    private void pair() {
        int event = anEvent();
        put("weight", "(" + event + ")", () -> fest.weight(event), () -> model.weight(event));
        put("pair", "(" + event + ")", () -> fest.pair(event), () -> model.pair(event));
    }

    private int aGame() {
        List<Integer> going = new ArrayList<>();
        for (int game = 0; game < model.matches.size(); game++) {
            if (model.matches.get(game).result == '*') {
                going.add(game);
            }
        }
        return going.isEmpty() || random.nextInt(10) == 0 ? upTo(model.matches.size())
                : going.get(random.nextInt(going.size()));
    }

    private void play() {
        int game = aGame();
        int choice = random.nextInt(20);
        if (choice < 9) {
            move(game);
        } else if (choice < 14) {
            char result = likelyResult(game);
            put("end", List.of(game, result).toString(), () -> fest.end(game, result), () -> model.end(game, result));
        } else if (choice < 16) {
            put("best", "(" + game + ")", () -> fest.best(game), () -> model.best(game));
            put("adjudge", "(" + game + ")", () -> fest.adjudge(game), () -> model.adjudge(game));
        } else {
            lookAtGame(game);
        }
    }

    /** The lower number is likely to win, so that norms come about. */
    private char likelyResult(int game) {
        if (random.nextInt(5) < strength || game < 0 || game >= model.matches.size()) {
            return oneOf("10=+-");
        }
        Model.Match match = model.matches.get(game);
        return match.first < match.second ? '1' : '0';
    }

    private void move(int game) {
        int moves = random.nextInt(9) + 1;
        for (int i = 0; i < moves; i++) {
            int move = aMove(game);
            int seconds = random.nextInt(4) == 0 ? between(0, 999) : random.nextInt(12);
            put("move", List.of(game, move, seconds).toString(), () -> fest.move(game, move, seconds),
                    () -> model.move(game, move, seconds));
            if (random.nextInt(3) == 0) {
                lookAtGame(game);
            }
        }
    }

    private int aMove(int game) {
        List<Integer> legal = new ArrayList<>();
        for (int move = -1; move < 30; move++) {
            if (game >= 0 && game < model.matches.size() && model.isLegal(game, move)) {
                legal.add(move);
            }
        }
        return legal.isEmpty() || isWild() ? between(-12, 36) : legal.get(random.nextInt(legal.size()));
    }

    private void lookAtGame(int game) {
        boolean isFirst = random.nextBoolean();
        int move = between(-12, 36);
        String side = List.of(game, isFirst).toString();
        put("time", side, () -> fest.time(game, isFirst), () -> model.time(game, isFirst));
        put("periods", side, () -> fest.periods(game, isFirst), () -> model.periods(game, isFirst));
        put("playerOf", side, () -> fest.playerOf(game, isFirst), () -> model.playerOf(game, isFirst));
        put("isLegal", List.of(game, move).toString(), () -> fest.isLegal(game, move), () -> model.isLegal(game, move));
        put("best", "(" + game + ")", () -> fest.best(game), () -> model.best(game));
        put("result", "(" + game + ")", () -> fest.result(game), () -> model.result(game));
    }

    /** Ends games and pairs rounds, so that there come to be as many games as there can be. */
    private void hurry() {
        int game = aGame();
        if (game >= 0 && game < model.matches.size() && model.matches.get(game).result == '*') {
            char result = likelyResult(game);
            put("end", List.of(game, result).toString(), () -> fest.end(game, result), () -> model.end(game, result));
        } else if (random.nextInt(4) > 0) {
            pairOrClose(random.nextInt(model.cups.size()));
        } else {
            pair();
        }
    }

    private void pairOrClose(int event) {
        Model.Cup cup = model.cups.get(event);
        if (cup.byes.size() >= cup.rounds && !cup.closed && random.nextInt(3) == 0) {
            put("close", "(" + event + ")", () -> fest.close(event), () -> model.close(event));
        } else {
            put("pair", "(" + event + ")", () -> fest.pair(event), () -> model.pair(event));
        }
    }

    private void day() {
        put("day", "()", fest::day, model::day);
    }

    private void changeEvent() {
        int event = anEvent();
        int player = aPlayer();
        int game = upTo(model.matches.size());
        char result = oneOf("10=+-");
        int prize = random.nextBoolean() ? between(0, 100000) : between(0, 9);
        switch (random.nextInt(9)) {
            case 0:
                put("join", List.of(event, player).toString(), () -> fest.join(event, player),
                        () -> model.join(event, player));
                break;
            case 1:
                if (random.nextInt(3) == 0) {
                    put("withdraw", List.of(event, player).toString(), () -> fest.withdraw(event, player),
                            () -> model.withdraw(event, player));
                }
                break;
            case 2:
                boolean isEarly = event >= 0 && event < model.cups.size()
                        && model.cups.get(event).byes.size() < model.cups.get(event).rounds;
                if (!isEarly || random.nextInt(12) == 0) {
                    put("close", "(" + event + ")", () -> fest.close(event), () -> model.close(event));
                }
                break;
            case 3:
            case 4:
            case 5:
                put("prize", List.of(event, prize).toString(), () -> fest.prize(event, prize),
                        () -> model.prize(event, prize));
                break;
            case 6:
                setClock(event);
                break;
            default:
                put("correct", List.of(game, result).toString(), () -> fest.correct(game, result),
                        () -> model.correct(game, result));
        }
    }

    private void changePlayer() {
        int player = aPlayer();
        int by = aPlayer();
        int moves = between(1, random.nextBoolean() ? 60 : 12);
        int agreements = random.nextBoolean() ? moves : between(0, Math.max(0, Math.min(moves, 60)));
        switch (random.nextInt(8)) {
            case 0:
            case 1:
                put("agree", List.of(player, moves, agreements).toString(),
                        () -> fest.agree(player, moves, agreements), () -> model.agree(player, moves, agreements));
                break;
            case 2:
            case 3:
            case 4:
                put("suspect", List.of(player, by).toString(), () -> fest.suspect(player, by),
                        () -> model.suspect(player, by));
                break;
            default:
                put("lift", "(" + player + ")", () -> fest.lift(player), () -> model.lift(player));
        }
    }

    private void lookAtEvent() {
        int event = anEvent();
        int player = aPlayer();
        int which = between(1, 2);
        int rank = between(1, 10);
        int round = between(0, 6);
        String both = List.of(event, player).toString();
        put("points", both, () -> fest.points(event, player), () -> model.points(event, player));
        put("tieBreak", List.of(event, player, which).toString(), () -> fest.tieBreak(event, player, which),
                () -> model.tieBreak(event, player, which));
        put("rank", both, () -> fest.rank(event, player), () -> model.rank(event, player));
        put("ranked", List.of(event, rank).toString(), () -> fest.ranked(event, rank),
                () -> model.ranked(event, rank));
        put("share", both, () -> fest.share(event, player), () -> model.share(event, player));
        put("rounds", "(" + event + ")", () -> fest.rounds(event), () -> model.rounds(event));
        put("bye", List.of(event, round).toString(), () -> fest.bye(event, round), () -> model.bye(event, round));
    }

    private void lookAtPlayer() {
        int player = aPlayer();
        int day = between(0, model.today);
        put("rating", "(" + player + ")", () -> fest.rating(player), () -> model.rating(player));
        put("ratingOn", List.of(player, day).toString(), () -> fest.ratingOn(player, day),
                () -> model.ratingOn(player, day));
        put("rated", "(" + player + ")", () -> fest.rated(player), () -> model.rated(player));
        put("norms", "(" + player + ")", () -> fest.norms(player), () -> model.norms(player));
        put("isTitled", "(" + player + ")", () -> fest.isTitled(player), () -> model.isTitled(player));
        put("odds", "(" + player + ")", () -> fest.odds(player), () -> model.odds(player));
        put("isBanned", "(" + player + ")", () -> fest.isBanned(player), () -> model.isBanned(player));
        put("mark", "(" + player + ")", () -> fest.mark(player), () -> model.mark(player));
        put("overall", "(" + player + ")", () -> fest.overall(player), () -> model.overall(player));
    }

    private void lookAtAll() {
        put("overShare", "()", fest::overShare, model::overShare);
        put("checksum", "()", fest::checksum, model::checksum);
        put("isSound", "()", fest::isSound, model::isSound);
    }
}
