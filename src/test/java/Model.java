import java.math.BigDecimal;
import java.math.BigInteger;
import java.util.ArrayList;
import java.util.Comparator;
import java.util.HashMap;
import java.util.HashSet;
import java.util.List;
import java.util.Map;
import java.util.NoSuchElementException;
import java.util.Set;
import java.util.TreeMap;
import java.util.TreeSet;

/**
 * A second olympiad, written from the document alone and by other means than MindFest: nothing is kept that can be
 * reckoned anew, all ways to pair are listed and sorted, games are searched through as texts.
 */
final class Model {
    static final class Person {
        int rating;
        int land;
        int addedOn;
        int told;
        int agreed;
        boolean banned;
        final Set<Integer> eyes = new HashSet<>();
    }

    static final class Cup {
        char game;
        int rounds;
        boolean closed;
        char kind = 'i';
        int base = 300;
        int extra = 10;
        int periods = 1;
        final TreeMap<Integer, Integer> entries = new TreeMap<>();
        final Set<Integer> gone = new HashSet<>();
        final List<Integer> byes = new ArrayList<>();
        final List<Integer> prizes = new ArrayList<>();
    }

    static final class Match {
        int cup;
        int first;
        int second;
        char result = '*';
        int overOn = -1;
        StringBuilder board;
        int turns;
        final int[] time = new int[2];
        final int[] periods = new int[2];

        boolean rated() {
            return "10=".indexOf(result) >= 0;
        }

        boolean forfeit() {
            return "+-".indexOf(result) >= 0;
        }

        boolean has(int player) {
            return first == player || second == player;
        }

        int points(int player) {
            String wins = player == first ? "1+" : "0-";
            return result == '=' ? 1 : wins.indexOf(result) >= 0 ? 2 : 0;
        }
    }

    static final class Way {
        final TreeMap<Integer, Integer> partners;
        final int weight;

        Way(TreeMap<Integer, Integer> partners, int weight) {
            this.partners = partners;
            this.weight = weight;
        }
    }

    private static final int BYE = 99;
    private static final int[][] LINES = {{0, 1, 2}, {3, 4, 5}, {6, 7, 8}, {0, 3, 6}, {1, 4, 7}, {2, 5, 8},
        {0, 4, 8}, {2, 4, 6}};
    private static final Map<String, Integer> VALUES = new HashMap<>();

    final List<Person> persons = new ArrayList<>();
    final List<Cup> cups = new ArrayList<>();
    final List<Match> matches = new ArrayList<>();
    int today;

    // ---- what exceptions ask for

    private Person person(int player) {
        if (player < 0 || player >= persons.size()) {
            throw new IndexOutOfBoundsException();
        }
        return persons.get(player);
    }

    private Cup cup(int event) {
        if (event < 0 || event >= cups.size()) {
            throw new IndexOutOfBoundsException();
        }
        return cups.get(event);
    }

    private Match match(int game) {
        if (game < 0 || game >= matches.size()) {
            throw new IndexOutOfBoundsException();
        }
        return matches.get(game);
    }

    private static void argument(boolean good) {
        if (!good) {
            throw new IllegalArgumentException();
        }
    }

    private static void support(boolean good) {
        if (!good) {
            throw new UnsupportedOperationException();
        }
    }

    private static void state(boolean good) {
        if (!good) {
            throw new IllegalStateException();
        }
    }

    private static void element(boolean good) {
        if (!good) {
            throw new NoSuchElementException();
        }
    }

    // ---- players and events

    int player(int rating, int land) {
        argument(rating >= 100 && rating <= 3000 && land >= 0 && land <= 9);
        state(persons.size() < 12);
        Person person = new Person();
        person.rating = rating;
        person.land = land;
        person.addedOn = today;
        persons.add(person);
        return persons.size() - 1;
    }

    int event(char game, int rounds, int players) {
        argument("tn".indexOf(game) >= 0 && rounds >= 1 && rounds <= 7);
        Set<Integer> named = new TreeSet<>();
        for (int bit = 0; bit < 32; bit++) {
            if ((players & 1L << bit) != 0 || bit == 31 && players < 0) {
                named.add(bit);
            }
        }
        argument(named.size() >= 2 && named.size() <= 10);
        for (int player : named) {
            argument(player < persons.size());
        }
        state(cups.size() < 4);
        Cup cup = new Cup();
        cup.game = game;
        cup.rounds = rounds;
        for (int player : named) {
            cup.entries.put(player, rating(player));
        }
        cups.add(cup);
        return cups.size() - 1;
    }

    char clock(int event, char kind, int base, int extra, int periods) {
        Cup cup = cup(event);
        argument("dib".indexOf(kind) >= 0 && base >= 10 && base <= 600 && extra >= 1 && extra <= 60);
        argument(kind != 'b' || periods >= 1 && periods <= 5);
        support(gamesOf(event).isEmpty());
        char before = cup.kind;
        cup.kind = kind;
        cup.base = base;
        cup.extra = extra;
        cup.periods = periods;
        return before;
    }

    int join(int event, int player) {
        Cup cup = cup(event);
        person(player);
        support(!cup.closed && cup.byes.size() < cup.rounds && !cup.entries.containsKey(player));
        state(cup.entries.size() < 10);
        cup.entries.put(player, rating(player));
        return cup.entries.size();
    }

    int withdraw(int event, int player) {
        Cup cup = cup(event);
        person(player);
        support(!cup.closed && cup.entries.containsKey(player) && !cup.gone.contains(player));
        cup.gone.add(player);
        return cup.entries.size() - cup.gone.size();
    }

    int close(int event) {
        Cup cup = cup(event);
        support(!cup.closed && going(event) == 0);
        cup.closed = true;
        return order(event).get(0);
    }

    // ---- rounds and games

    List<Match> gamesOf(int event) {
        List<Match> games = new ArrayList<>();
        for (Match match : matches) {
            if (match.cup == event) {
                games.add(match);
            }
        }
        return games;
    }

    int going(int event) {
        int count = 0;
        for (Match match : gamesOf(event)) {
            count += match.result == '*' ? 1 : 0;
        }
        return count;
    }

    private int balance(int event, int player) {
        int balance = 0;
        for (Match match : gamesOf(event)) {
            balance += match.first == player ? 1 : match.second == player ? -1 : 0;
        }
        return balance;
    }

    private boolean met(int event, int one, int other) {
        for (Match match : gamesOf(event)) {
            if (match.has(one) && match.has(other) && !match.forfeit()) {
                return true;
            }
        }
        return false;
    }

    private int pairWeight(int event, int one, int other) {
        int apart = points(event, one) - points(event, other);
        int a = balance(event, one);
        int b = balance(event, other);
        boolean alike = a > 0 && b > 0 || a < 0 && b < 0;
        return 100 * apart * apart + (alike ? 10 : 0) + (persons.get(one).land == persons.get(other).land ? 1 : 0);
    }

    private void listWays(int event, TreeSet<Integer> free, boolean bye, TreeMap<Integer, Integer> sofar, int weight,
            Map<String, Integer> weights, List<Way> ways) {
        if (free.isEmpty()) {
            ways.add(new Way(new TreeMap<>(sofar), weight));
            return;
        }
        int low = free.first();
        TreeSet<Integer> rest = new TreeSet<>(free);
        rest.remove(low);
        if (bye && !cups.get(event).byes.contains(low)) {
            sofar.put(low, BYE);
            listWays(event, rest, false, sofar, weight + 50 * points(event, low), weights, ways);
            sofar.remove(low);
        }
        for (int other : rest.descendingSet()) {
            Integer more = weights.get(low + "-" + other);
            if (more != null) {
                TreeSet<Integer> fewer = new TreeSet<>(rest);
                fewer.remove(other);
                sofar.put(low, other);
                sofar.put(other, low);
                listWays(event, fewer, bye, sofar, weight + more, weights, ways);
                sofar.remove(low);
                sofar.remove(other);
            }
        }
    }

    private static int compareWays(Way a, Way b) {
        if (a.weight != b.weight) {
            return Integer.compare(a.weight, b.weight);
        }
        for (int player : a.partners.keySet()) {
            int order = Integer.compare(a.partners.get(player), b.partners.get(player));
            if (order != 0) {
                return order;
            }
        }
        return 0;
    }

    private Way bestWay(int event) {
        Cup cup = cups.get(event);
        if (cup.closed || cup.byes.size() >= cup.rounds || going(event) > 0) {
            return null;
        }
        TreeSet<Integer> free = new TreeSet<>();
        for (int player : cup.entries.keySet()) {
            if (!cup.gone.contains(player) && !persons.get(player).banned) {
                free.add(player);
            }
        }
        if (free.size() < 2) {
            return null;
        }
        Map<String, Integer> weights = new HashMap<>();
        for (int one : free) {
            for (int other : free.tailSet(one, false)) {
                if (!met(event, one, other)) {
                    weights.put(one + "-" + other, pairWeight(event, one, other));
                }
            }
        }
        List<Way> ways = new ArrayList<>();
        listWays(event, free, free.size() % 2 == 1, new TreeMap<>(), 0, weights, ways);
        ways.sort(Model::compareWays);
        return ways.isEmpty() ? null : ways.get(0);
    }

    int pair(int event) {
        Cup cup = cup(event);
        Way way = bestWay(event);
        support(way != null);
        state(matches.size() + way.partners.size() / 2 <= 100);
        int game = matches.size();
        Integer bye = null;
        List<Match> fresh = new ArrayList<>();
        for (int player : way.partners.keySet()) {
            int partner = way.partners.get(player);
            if (partner == BYE) {
                bye = player;
            } else if (player < partner) {
                fresh.add(newMatch(event, cup, player, partner));
            }
        }
        matches.addAll(fresh);
        cup.byes.add(bye);
        return game;
    }

    private Match newMatch(int event, Cup cup, int low, int high) {
        boolean swapped = balance(event, high) < balance(event, low);
        Match match = new Match();
        match.cup = event;
        match.first = swapped ? high : low;
        match.second = swapped ? low : high;
        match.board = new StringBuilder(cup.game == 't' ? "........." : "345");
        for (int side = 0; side < 2; side++) {
            match.time[side] = cup.base;
            match.periods[side] = cup.kind == 'b' ? cup.periods : 0;
        }
        return match;
    }

    int weight(int event) {
        cup(event);
        Way way = bestWay(event);
        support(way != null && matches.size() + way.partners.size() / 2 <= 100);
        return way.weight;
    }

    int rounds(int event) {
        return cup(event).byes.size();
    }

    int playerOf(int game, boolean isFirst) {
        Match match = match(game);
        return isFirst ? match.first : match.second;
    }

    int bye(int event, int round) {
        Cup cup = cup(event);
        element(round >= 0 && round < cup.byes.size() && cup.byes.get(round) != null);
        return cup.byes.get(round);
    }

    private static boolean legal(String board, int move) {
        if (board.length() == 9) {
            return move >= 0 && move < 9 && board.charAt(move) == '.';
        }
        for (int heap = 0; heap < 3; heap++) {
            for (int taken = 1; taken <= board.charAt(heap) - '0'; taken++) {
                if (move == 10 * heap + taken) {
                    return true;
                }
            }
        }
        return false;
    }

    private static String after(String board, int move, char mark) {
        StringBuilder next = new StringBuilder(board);
        if (board.length() == 9) {
            next.setCharAt(move, mark);
        } else {
            next.setCharAt(move / 10, (char) (next.charAt(move / 10) - move % 10));
        }
        return next.toString();
    }

    /** '*' if the game goes on, '=' if it is drawn, 'w' if the one who moved last has won. */
    private static char verdict(String board) {
        if (board.length() == 3) {
            return board.equals("000") ? 'w' : '*';
        }
        for (int[] line : LINES) {
            char mark = board.charAt(line[0]);
            if (mark != '.' && mark == board.charAt(line[1]) && mark == board.charAt(line[2])) {
                return 'w';
            }
        }
        return board.indexOf(".") < 0 ? '=' : '*';
    }

    /** What best play brings the one to move, who has the mark. */
    private static int value(String board, char mark) {
        char verdict = verdict(board);
        if (verdict != '*') {
            return verdict == 'w' ? -1 : 0;
        }
        String key = board + mark;
        Integer known = VALUES.get(key);
        if (known == null) {
            int best = -1;
            for (int move = 0; move < 30; move++) {
                if (legal(board, move)) {
                    best = Math.max(best, -value(after(board, move, mark), mark == 'x' ? 'o' : 'x'));
                }
            }
            known = best;
            VALUES.put(key, known);
        }
        return known;
    }

    char move(int game, int move, int seconds) {
        Match match = match(game);
        support(match.result == '*');
        argument(seconds >= 0 && seconds <= 999 && legal(match.board.toString(), move));
        int side = match.turns % 2;
        if (!spend(match, cups.get(match.cup), side, seconds)) {
            boolean drawn = match.board.length() == 9 && !canStillRow(match.board, side == 0 ? 'x' : 'o');
            finish(match, drawn ? '=' : side == 0 ? '0' : '1');
            return match.result;
        }
        match.board = new StringBuilder(after(match.board.toString(), move, side == 0 ? 'x' : 'o'));
        match.turns++;
        char verdict = verdict(match.board.toString());
        if (verdict != '*') {
            finish(match, verdict == '=' ? '=' : side == 0 ? '1' : '0');
        }
        return match.result;
    }

    private static boolean canStillRow(StringBuilder board, char fallen) {
        for (int[] line : LINES) {
            boolean free = true;
            for (int place : line) {
                free = free && board.charAt(place) != fallen;
            }
            if (free) {
                return true;
            }
        }
        return false;
    }

    private static boolean spend(Match match, Cup cup, int side, int seconds) {
        int time = match.time[side];
        int periods = match.periods[side];
        switch (cup.kind) {
            case 'd':
                time -= seconds > cup.extra ? seconds - cup.extra : 0;
                break;
            case 'i':
                time -= seconds;
                break;
            default:
                time -= seconds;
                for (; time < 0 && -time >= cup.extra; time += cup.extra) {
                    periods--;
                }
                if (periods > 0) {
                    time = Math.max(0, time);
                } else {
                    time = -1;
                }
        }
        if (time < 0) {
            return false;
        }
        match.time[side] = cup.kind == 'i' ? time + cup.extra : time;
        match.periods[side] = periods;
        return true;
    }

    private void finish(Match match, char result) {
        match.result = result;
        match.overOn = today;
    }

    boolean isLegal(int game, int move) {
        Match match = match(game);
        return match.result == '*' && legal(match.board.toString(), move);
    }

    int time(int game, boolean isFirst) {
        return match(game).time[isFirst ? 0 : 1];
    }

    int periods(int game, boolean isFirst) {
        return match(game).periods[isFirst ? 0 : 1];
    }

    private static boolean good(Match match, char result) {
        return (match.board.length() == 9 ? "10=+-" : "10+-").indexOf(result) >= 0;
    }

    int end(int game, char result) {
        Match match = match(game);
        argument(good(match, result));
        support(match.result == '*');
        finish(match, result);
        return going(match.cup);
    }

    char best(int game) {
        Match match = match(game);
        if (match.result != '*') {
            return match.result;
        }
        int value = value(match.board.toString(), match.turns % 2 == 0 ? 'x' : 'o');
        return value == 0 ? '=' : value > 0 == (match.turns % 2 == 0) ? '1' : '0';
    }

    char adjudge(int game) {
        Match match = match(game);
        support(match.result == '*');
        finish(match, best(game));
        return match.result;
    }

    char correct(int game, char result) {
        Match match = match(game);
        argument(good(match, result));
        support(match.result != '*' && !cups.get(match.cup).closed);
        char before = match.result;
        match.result = result;
        return before;
    }

    char result(int game) {
        return match(game).result;
    }

    // ---- tables

    private void member(int event, int player) {
        element(cups.get(event).entries.containsKey(player));
    }

    int points(int event, int player) {
        cup(event);
        person(player);
        member(event, player);
        int points = 0;
        for (Match match : gamesOf(event)) {
            points += match.has(player) ? match.points(player) : 0;
        }
        for (Integer bye : cups.get(event).byes) {
            points += bye != null && bye == player ? 2 : 0;
        }
        return points;
    }

    int tieBreak(int event, int player, int which) {
        cup(event);
        person(player);
        argument(which == 1 || which == 2);
        member(event, player);
        int own = points(event, player);
        int met = 0;
        int beaten = 0;
        for (Match match : gamesOf(event)) {
            if (match.has(player)) {
                int theirs = points(event, match.first == player ? match.second : match.first);
                met += match.forfeit() ? own / 2 : match.rated() ? theirs : 0;
                if (match.rated()) {
                    beaten += match.points(player) == 2 ? 2 * theirs : match.points(player) == 1 ? theirs : 0;
                }
            }
        }
        for (Integer bye : cups.get(event).byes) {
            met += bye != null && bye == player ? own / 2 : 0;
        }
        return which == 1 ? met : beaten;
    }

    List<Integer> order(int event) {
        List<Integer> order = new ArrayList<>(cups.get(event).entries.keySet());
        Comparator<Integer> better = Comparator.comparing(p -> -points(event, p));
        better = better.thenComparing(p -> -tieBreak(event, p, 1));
        better = better.thenComparing(p -> -tieBreak(event, p, 2));
        better = better.thenComparing(p -> -cups.get(event).entries.get(p));
        order.sort(better.thenComparing(p -> p));
        return order;
    }

    int rank(int event, int player) {
        cup(event);
        person(player);
        member(event, player);
        return order(event).indexOf(player) + 1;
    }

    int ranked(int event, int rank) {
        Cup cup = cup(event);
        element(rank >= 1 && rank <= cup.entries.size());
        return order(event).get(rank - 1);
    }

    // ---- ratings, titles, agreements

    int day() {
        state(today < 9999);
        today++;
        return today;
    }

    private int ratedAheadOf(int player, int day) {
        int count = 0;
        for (Match match : matches) {
            count += match.rated() && match.overOn < day && match.has(player) ? 1 : 0;
        }
        return count;
    }

    private static int change(int own, int other, int played, int score) {
        int expected = 500 + (int) ((own - other) * 1.25);
        expected = expected < 0 ? 0 : expected > 1000 ? 1000 : expected;
        int factor = played < 5 ? 40 : own >= 2400 ? 10 : 20;
        double change = factor * (score - expected) / 1000.0;
        return (int) (Math.signum(change) * Math.floor(Math.abs(change) + 0.5));
    }

    /** The ratings of all as a day began; of players who came later their first ones. */
    private int[] ratingsAt(int day) {
        int[] ratings = new int[persons.size()];
        for (int p = 0; p < ratings.length; p++) {
            ratings[p] = persons.get(p).rating;
        }
        TreeSet<Integer> days = new TreeSet<>();
        for (Match match : matches) {
            if (match.rated() && match.overOn < day) {
                days.add(match.overOn);
            }
        }
        for (int past : days) {
            int[] sums = new int[ratings.length];
            for (Match match : matches) {
                if (match.rated() && match.overOn == past) {
                    int a = match.first;
                    int b = match.second;
                    sums[a] += change(ratings[a], ratings[b], ratedAheadOf(a, past), 500 * match.points(a));
                    sums[b] += change(ratings[b], ratings[a], ratedAheadOf(b, past), 500 * match.points(b));
                }
            }
            for (int p = 0; p < ratings.length; p++) {
                ratings[p] = Math.max(100, ratings[p] + sums[p]);
            }
        }
        return ratings;
    }

    int rating(int player) {
        person(player);
        return ratingsAt(today)[player];
    }

    int ratingOn(int player, int day) {
        Person person = person(player);
        element(day >= 0 && day <= today && day >= person.addedOn);
        return ratingsAt(day)[player];
    }

    int rated(int player) {
        person(player);
        return ratedAheadOf(player, today);
    }

    int norms(int player) {
        person(player);
        int norms = 0;
        for (int event = 0; event < cups.size(); event++) {
            norms += cups.get(event).closed && norm(event, player) ? 1 : 0;
        }
        return norms;
    }

    private boolean norm(int event, int player) {
        List<Integer> others = new ArrayList<>();
        double score = 0;
        double sum = 0;
        int abroad = 0;
        for (Match match : gamesOf(event)) {
            if (match.has(player) && match.rated()) {
                int other = match.first == player ? match.second : match.first;
                others.add(other);
                score += match.points(player) / 2.0;
                sum += cups.get(event).entries.get(other);
                abroad += persons.get(other).land == persons.get(player).land ? 0 : 1;
            }
        }
        return others.size() >= 4 && abroad >= 2 && sum / others.size() >= 1800
                && score * 100 >= 65 * others.size();
    }

    boolean isTitled(int player) {
        Person person = person(player);
        boolean reached = person.rating >= 2000;
        for (int day = person.addedOn; day < today; day++) {
            reached = reached || ratingsAt(day + 1)[player] >= 2000;
        }
        return norms(player) >= 2 && reached;
    }

    int agree(int player, int moves, int agreements) {
        Person person = person(player);
        argument(moves >= 1 && moves <= 60 && agreements >= 0 && agreements <= moves);
        state(person.told + moves <= 60);
        person.told += moves;
        person.agreed += agreements;
        return person.told;
    }

    double odds(int player) {
        Person person = person(player);
        if (person.told == 0) {
            throw new ArithmeticException();
        }
        BigInteger ways = BigInteger.ZERO;
        for (int k = person.agreed; k <= person.told; k++) {
            ways = ways.add(choose(person.told, k));
        }
        return new BigDecimal(ways).divide(new BigDecimal(BigInteger.TWO.pow(person.told))).doubleValue();
    }

    private static BigInteger choose(int n, int k) {
        BigInteger ways = BigInteger.ONE;
        for (int i = 0; i < k; i++) {
            ways = ways.multiply(BigInteger.valueOf(n - i)).divide(BigInteger.valueOf(i + 1));
        }
        return ways;
    }

    boolean suspect(int player, int by) {
        Person person = person(player);
        person(by);
        argument(player != by);
        support(!person.banned && !person.eyes.contains(by));
        person.eyes.add(by);
        person.banned = person.eyes.size() > 1 && person.told > 0 && odds(player) < 0.01;
        return person.banned;
    }

    int lift(int player) {
        Person person = person(player);
        support(person.banned);
        int eyes = person.eyes.size();
        person.banned = false;
        person.eyes.clear();
        person.told = 0;
        person.agreed = 0;
        return eyes;
    }

    boolean isBanned(int player) {
        return person(player).banned;
    }

    // ---- ranks over all, prizes, figures

    int mark(int player) {
        person(player);
        int mark = 0;
        for (int event = 0; event < cups.size(); event++) {
            Cup cup = cups.get(event);
            if (cup.closed && cup.entries.containsKey(player) && !cup.gone.contains(player)) {
                int behind = cup.entries.size() - rank(event, player);
                mark += (int) Math.floor(1000.0 * behind / (cup.entries.size() - 1) + 1e-9);
            }
        }
        return mark;
    }

    int overall(int player) {
        person(player);
        int rank = 1;
        for (int p = 0; p < persons.size(); p++) {
            rank += mark(p) > mark(player) ? 1 : 0;
        }
        return rank;
    }

    int prize(int event, int prize) {
        Cup cup = cup(event);
        argument(prize >= 0 && prize <= 100000);
        support(cup.closed);
        state(cup.prizes.size() < 6 && cup.prizes.size() < cup.entries.size());
        cup.prizes.add(prize);
        return cup.prizes.size();
    }

    int share(int event, int player) {
        Cup cup = cup(event);
        person(player);
        member(event, player);
        List<Integer> order = order(event);
        List<Integer> like = new ArrayList<>();
        int pool = 0;
        int share = 0;
        for (int rank = 0; rank < order.size(); rank++) {
            int one = order.get(rank);
            int prize = rank < cup.prizes.size() ? cup.prizes.get(rank) : 0;
            int half = (int) Math.floor(prize / 2.0);
            if (points(event, one) == points(event, player)) {
                like.add(one);
                pool += prize - half;
            }
            share += one == player ? half : 0;
        }
        for (int coin = 0; coin < pool % like.size(); coin++) {
            share += like.get(coin) == player ? 1 : 0;
        }
        return share + pool / like.size();
    }

    float overShare() {
        if (matches.isEmpty()) {
            throw new ArithmeticException();
        }
        int over = 0;
        for (Match match : matches) {
            over += match.result == '*' ? 0 : 1;
        }
        return (float) over / (float) matches.size();
    }

    long checksum() {
        long sum = 7;
        for (int p = 0; p < persons.size(); p++) {
            sum = 31 * sum + rating(p);
        }
        for (Match match : matches) {
            sum = 31 * sum + match.result;
        }
        for (int event = 0; event < cups.size(); event++) {
            for (int p : cups.get(event).entries.keySet()) {
                sum = 31 * sum + points(event, p);
            }
        }
        return sum;
    }

    boolean isSound() {
        for (int event = 0; event < cups.size(); event++) {
            Set<String> meetings = new HashSet<>();
            for (Match match : gamesOf(event)) {
                int low = Math.min(match.first, match.second);
                int high = Math.max(match.first, match.second);
                if (!match.forfeit() && !meetings.add(low + "-" + high)) {
                    return false;
                }
            }
        }
        return true;
    }
}
