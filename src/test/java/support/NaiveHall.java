import java.util.ArrayList;
import java.util.Collections;
import java.util.HashSet;
import java.util.List;
import java.util.Set;

/**
 * The document once more, written another way: it keeps what was told alone and finds each answer from
 * the first roll or dart on. An answer is a text, that of an exception its name.
 */
final class NaiveHall {
    static final String BOUNDS = "IndexOutOfBoundsException";
    static final String ARGUMENT = "IllegalArgumentException";
    static final String STATE = "IllegalStateException";
    static final String UNSUPPORTED = "UnsupportedOperationException";
    static final String MISSING = "NoSuchElementException";
    static final String ARITHMETIC = "ArithmeticException";

    private record Roll(int pins, boolean isFoul) {
        int takes() {
            return isFoul ? 0 : pins;
        }
    }

    private record Told(int player, int week, List<Roll> rolls, Set<Integer> tried) {
    }

    private record Hit(int part, int times) {
        int count() {
            return part * times;
        }
    }

    private record ToldLeg(int[] players, int start, boolean isDoubleIn, List<Hit> hits) {
    }

    /** The frames of some rolls; error is null if they can be read. */
    private static final class Sheet {
        final List<List<Integer>> frames = new ArrayList<>();
        int over = 0;
        int stand = 10;
        String error = null;
        final List<Integer> flat = new ArrayList<>();

        Sheet(List<Roll> rolls) {
            frames.add(new ArrayList<>());
            for (Roll r : rolls) {
                if (over == 10) {
                    error = UNSUPPORTED;
                    return;
                }
                if (r.pins > stand) {
                    error = ARGUMENT;
                    return;
                }
                current().add(r.takes());
                flat.add(r.takes());
                stand -= r.takes();
                boolean isLast = frames.size() == 10;
                if (isLast ? lastIsOver() : stand == 0 || current().size() == 2) {
                    over++;
                    if (isLast) {
                        stand = 0;
                    } else {
                        frames.add(new ArrayList<>());
                        stand = 10;
                    }
                } else if (isLast && stand == 0) {
                    stand = 10;
                }
            }
        }

        private List<Integer> current() {
            return frames.get(frames.size() - 1);
        }

        private boolean lastIsOver() {
            List<Integer> last = current();
            boolean wasSetUp = last.get(0) == 10 || last.size() > 1 && last.get(0) + last.get(1) == 10;
            return last.size() == 3 || last.size() == 2 && !wasSetUp;
        }

        boolean isDone() {
            return over == 10;
        }

        List<Integer> frame(int f) {
            return f < frames.size() ? frames.get(f) : List.of();
        }

        char sign(int f) {
            List<Integer> r = frame(f);
            if (r.size() >= 1 && r.get(0) == 10) {
                return 'x';
            }
            if (r.size() >= 2 && r.get(0) + r.get(1) == 10) {
                return '/';
            }
            return f < over ? 'o' : '-';
        }

        /** The score up to a frame, or -1. */
        int score(int f) {
            int at = 0;
            int sum = 0;
            for (int i = 0; i <= f; i++) {
                if (i >= over) {
                    return -1;
                }
                int used = frame(i).size();
                if (i < 9 && sign(i) != 'o') {
                    used = 3;
                }
                if (at + used > flat.size()) {
                    return -1;
                }
                for (int k = 0; k < used; k++) {
                    sum += flat.get(at + k);
                }
                at += frame(i).size();
            }
            return sum;
        }

        int total() {
            return score(9);
        }
    }

    /** Where a leg stands after some darts. */
    private static final class Board {
        int[] rest;
        boolean[] in;
        int turn = 0;
        List<Hit> thrown = new ArrayList<>();
        int restThen;
        boolean inThen;
        int busts = 0;
        boolean won = false;
        boolean wonEarly = false;
        int restOfLast;

        Board(ToldLeg leg) {
            rest = new int[] {leg.start, leg.start};
            in = new boolean[] {!leg.isDoubleIn, !leg.isDoubleIn};
            restThen = leg.start;
            inThen = in[0];
            for (Hit h : leg.hits) {
                if (won) {
                    wonEarly = true;
                    return;
                }
                take(h);
            }
        }

        Board(int rest, boolean in, int thrown) {
            this.rest = new int[] {rest, 1000};
            this.in = new boolean[] {in, true};
            for (int i = 0; i < thrown; i++) {
                this.thrown.add(new Hit(0, 1));
            }
        }

        void take(Hit h) {
            int who = turn;
            thrown.add(h);
            if (h.times == 2) {
                in[who] = true;
            }
            if (in[who]) {
                rest[who] -= h.count();
            }
            if (rest[who] < 0 || rest[who] == 1 || rest[who] == 0 && h.times != 2) {
                busts++;
                rest[who] = restThen;
                in[who] = inThen;
                pass();
            } else if (rest[who] == 0) {
                won = true;
            } else if (thrown.size() == 3) {
                pass();
            }
            restOfLast = rest[who];
        }

        private void pass() {
            turn = 1 - turn;
            thrown = new ArrayList<>();
            restThen = rest[turn];
            inThen = in[turn];
        }
    }

    private int players = 0;
    private final List<Told> games = new ArrayList<>();
    private final List<ToldLeg> legs = new ArrayList<>();
    private final List<int[]> teams = new ArrayList<>();
    private final List<int[]> matches = new ArrayList<>();
    private int percent = 80;
    private int base = 200;
    private int cap = 60;
    private final int[] purses = new int[8];

    /** Answers a call; flags are told as 0 or 1. */
    String call(String name, int... a) {
        switch (name) {
            case "addPlayer": return players >= 8 ? STATE : "" + players++;
            case "begin": return begin(a[0], a[1]);
            case "leg": return leg(a[0], a[1], a[2], a[3] == 1);
            case "setHandicap": return setHandicap(a[0], a[1], a[2]);
            case "team": return team(a[0], a[1]);
            case "match": return match(a[0], a[1], a[2]);
            case "champion": return champion(a[0]);
            case "ranked": return a[0] < 0 || a[0] >= teams.size() ? BOUNDS : "" + ranking().get(a[0]);
            case "points": return a[0] < 0 || a[0] >= teams.size() ? BOUNDS : "" + standings()[a[0]][0];
            case "pins": return "" + done(-1, -1).stream().mapToLong(Sheet::total).sum();
            case "strikeShare": return strikeShare();
            case "meanScore": return meanScore();
            case "isSound": return "true";
            case "average": case "handicap": case "pay": case "purse": return ofPlayer(name, a);
            case "dart": case "fixDart": case "rest": case "turnOf": case "winner": case "busts":
            case "wayOut": case "wayOutAt": return ofLeg(name, a);
            default: return ofGame(name, a);
        }
    }

    private String begin(int player, int week) {
        if (player < 0 || player >= players) {
            return BOUNDS;
        }
        if (week < 0 || week > 19) {
            return ARGUMENT;
        }
        if (games.size() == 30) {
            return STATE;
        }
        games.add(new Told(player, week, new ArrayList<>(), new HashSet<>()));
        return "" + (games.size() - 1);
    }

    private String ofGame(String name, int[] a) {
        if (a[0] < 0 || a[0] >= games.size()) {
            return BOUNDS;
        }
        Told game = games.get(a[0]);
        Sheet sheet = new Sheet(game.rolls);
        switch (name) {
            case "rolls": return "" + game.rolls.size();
            case "standing": return "" + sheet.stand;
            case "isDone": return "" + sheet.isDone();
            case "roll": return roll(game, sheet, a[1], a[2] == 1);
            case "fix": return fix(game, a[1], a[2], a[3] == 1);
            default: break;
        }
        if (a[1] < 0 || a[1] > 9) {
            return ARGUMENT;
        }
        switch (name) {
            case "score": return sheet.score(a[1]) < 0 ? MISSING : "" + sheet.score(a[1]);
            case "frame": return "" + sheet.sign(a[1]);
            default: return tries(game, sheet, a[1]);
        }
    }

    private String roll(Told game, Sheet sheet, int pins, boolean isFoul) {
        if (sheet.isDone()) {
            return UNSUPPORTED;
        }
        if (pins < 0 || pins > sheet.stand) {
            return ARGUMENT;
        }
        int frame = sheet.over;
        game.rolls.add(new Roll(pins, isFoul));
        return "" + frame;
    }

    private String fix(Told game, int roll, int pins, boolean isFoul) {
        if (roll < 0 || roll >= game.rolls.size()) {
            return BOUNDS;
        }
        if (pins < 0) {
            return ARGUMENT;
        }
        List<Roll> then = new ArrayList<>(game.rolls);
        then.set(roll, new Roll(pins, isFoul));
        Sheet sheet = new Sheet(then);
        if (sheet.error != null) {
            return sheet.error;
        }
        game.rolls.set(roll, new Roll(pins, isFoul));
        return "" + sheet.frames.stream().filter(f -> !f.isEmpty()).count();
    }

    private int pot() {
        int sum = 0;
        for (int p : purses) {
            sum -= p;
        }
        return sum;
    }

    private String tries(Told game, Sheet sheet, int frame) {
        if (sheet.frame(frame).isEmpty() || !game.tried.add(frame)) {
            return UNSUPPORTED;
        }
        int paid = sheet.sign(frame) == 'x' ? pot() : 0;
        purses[game.player] += paid;
        return "" + paid;
    }

    private String leg(int one, int other, int start, boolean isDoubleIn) {
        if (one < 0 || one >= players || other < 0 || other >= players) {
            return BOUNDS;
        }
        if (one == other || start < 2 || start > 1001) {
            return ARGUMENT;
        }
        if (legs.size() == 8) {
            return STATE;
        }
        legs.add(new ToldLeg(new int[] {one, other}, start, isDoubleIn, new ArrayList<>()));
        return "" + (legs.size() - 1);
    }

    private static List<Hit> allHits() {
        List<Hit> all = new ArrayList<>();
        for (int part = 1; part <= 20; part++) {
            for (int times = 1; times <= 3; times++) {
                all.add(new Hit(part, times));
            }
        }
        all.add(new Hit(25, 1));
        all.add(new Hit(25, 2));
        return all;
    }

    private static final List<Hit> HITS = allHits();

    private static boolean isHit(Hit h) {
        return h.equals(new Hit(0, 1)) || HITS.contains(h);
    }

    private String ofLeg(String name, int[] a) {
        if (a[0] < 0 || a[0] >= legs.size()) {
            return BOUNDS;
        }
        ToldLeg leg = legs.get(a[0]);
        Board board = new Board(leg);
        int turn = leg.players[board.turn];
        switch (name) {
            case "dart": return dart(leg, board, new Hit(a[1], a[2]));
            case "fixDart": return fixDart(leg, a[1], new Hit(a[2], a[3]));
            case "rest": return a[1] < 0 || a[1] > 1 ? ARGUMENT : "" + board.rest[a[1]];
            case "turnOf": return board.won ? MISSING : "" + turn;
            case "winner": return board.won ? "" + turn : MISSING;
            case "busts": return "" + board.busts;
            default: break;
        }
        List<Hit> way = board.won ? List.of() : wayOut(board);
        if (name.equals("wayOut")) {
            return way.isEmpty() ? MISSING : "" + way.size();
        }
        return a[1] < 0 || a[1] >= way.size() ? MISSING : "" + (10 * way.get(a[1]).part + way.get(a[1]).times);
    }

    private String dart(ToldLeg leg, Board board, Hit hit) {
        if (!isHit(hit)) {
            return ARGUMENT;
        }
        if (board.won) {
            return UNSUPPORTED;
        }
        if (leg.hits.size() == 60) {
            return STATE;
        }
        leg.hits.add(hit);
        return "" + new Board(leg).restOfLast;
    }

    private String fixDart(ToldLeg leg, int dart, Hit hit) {
        if (dart < 0 || dart >= leg.hits.size()) {
            return BOUNDS;
        }
        if (!isHit(hit)) {
            return ARGUMENT;
        }
        Hit old = leg.hits.set(dart, hit);
        Board board = new Board(leg);
        if (board.wonEarly) {
            leg.hits.set(dart, old);
            return UNSUPPORTED;
        }
        return "" + leg.players[board.turn];
    }

    /** Throws every row of one dart, then of two, and so on, at a board of its own. */
    private static List<Hit> wayOut(Board from) {
        for (int length = 1; length <= 3 - from.thrown.size(); length++) {
            List<Hit> way = wayOut(from, new ArrayList<>(), length);
            if (way != null) {
                return way;
            }
        }
        return List.of();
    }

    private static List<Hit> wayOut(Board from, List<Hit> ahead, int more) {
        Board board = new Board(from.rest[from.turn], from.in[from.turn], from.thrown.size());
        board.restThen = from.restThen;
        board.inThen = from.inThen;
        for (Hit h : ahead) {
            board.take(h);
        }
        if (board.busts > 0 || more == 0 || board.won) {
            return board.won && more == 0 ? ahead : null;
        }
        // Only to save time: what is left can't be taken by as many darts.
        if (board.rest[0] > 60 * more) {
            return null;
        }
        for (Hit h : HITS) {
            List<Hit> longer = new ArrayList<>(ahead);
            longer.add(h);
            List<Hit> way = wayOut(from, longer, more - 1);
            if (way != null) {
                return way;
            }
        }
        return null;
    }

    private String setHandicap(int percent, int base, int cap) {
        if (percent < 0 || percent > 100 || base < 0 || base > 300 || cap < 0 || cap > 300) {
            return ARGUMENT;
        }
        String before = "" + this.percent;
        this.percent = percent;
        this.base = base;
        this.cap = cap;
        return before;
    }

    /** The games that are done, of a player and in a week, -1 for any. */
    private List<Sheet> done(int player, int week) {
        List<Sheet> all = new ArrayList<>();
        for (Told g : games) {
            Sheet sheet = new Sheet(g.rolls);
            if (sheet.isDone() && (player < 0 || g.player == player) && (week < 0 || g.week == week)) {
                all.add(sheet);
            }
        }
        return all;
    }

    private int average(int player) {
        return (int) Math.floor(done(player, -1).stream().mapToInt(Sheet::total).average().orElse(-1));
    }

    private int handicap(int player) {
        int average = average(player);
        if (average < 0) {
            return 0;
        }
        int full = (int) Math.floor((base - average) * percent / 100.0);
        return full > cap ? cap : full < 0 ? 0 : full;
    }

    private String ofPlayer(String name, int[] a) {
        if (a[0] < 0 || a[0] >= players) {
            return BOUNDS;
        }
        switch (name) {
            case "average": return average(a[0]) < 0 ? MISSING : "" + average(a[0]);
            case "handicap": return "" + handicap(a[0]);
            case "purse": return "" + purses[a[0]];
            default: break;
        }
        if (a[1] < 1 || a[1] > 99) {
            return ARGUMENT;
        }
        purses[a[0]] -= a[1];
        return "" + pot();
    }

    private boolean isInTeam(int player) {
        return teams.stream().anyMatch(t -> t[0] == player || t[1] == player);
    }

    private String team(int one, int other) {
        if (one < 0 || one >= players || other < 0 || other >= players) {
            return BOUNDS;
        }
        if (one == other) {
            return ARGUMENT;
        }
        if (isInTeam(one) || isInTeam(other)) {
            return UNSUPPORTED;
        }
        teams.add(new int[] {one, other});
        return "" + (teams.size() - 1);
    }

    private String match(int one, int other, int week) {
        if (one < 0 || one >= teams.size() || other < 0 || other >= teams.size()) {
            return BOUNDS;
        }
        if (one == other || week < 0 || week > 19) {
            return ARGUMENT;
        }
        for (int[] m : matches) {
            if (m[2] == week && (m[0] == one || m[1] == one || m[0] == other || m[1] == other)) {
                return UNSUPPORTED;
            }
        }
        if (matches.size() == 20) {
            return STATE;
        }
        matches.add(new int[] {one, other, week});
        return "" + matches.size();
    }

    private int inRound(int player, int week, int round) {
        List<Sheet> played = done(player, week);
        if (round < played.size()) {
            return played.get(round).total() + handicap(player);
        }
        int average = average(player);
        return average < 0 ? 0 : (average < 10 ? 0 : average - 10) + handicap(player);
    }

    /** For each team its points and its sum. */
    private int[][] standings() {
        int[][] all = new int[teams.size()][2];
        for (int[] m : matches) {
            int[] totals = new int[2];
            int[][] sums = new int[4][2];
            for (int round = 0; round < 3; round++) {
                for (int side = 0; side < 2; side++) {
                    int[] team = teams.get(m[side]);
                    sums[round][side] = inRound(team[0], m[2], round) + inRound(team[1], m[2], round);
                    sums[3][side] += sums[round][side];
                    totals[side] += sums[round][side];
                }
            }
            for (int[] s : sums) {
                all[m[0]][0] += 1 + Integer.signum(s[0] - s[1]);
                all[m[1]][0] += 1 + Integer.signum(s[1] - s[0]);
            }
            all[m[0]][1] += totals[0];
            all[m[1]][1] += totals[1];
        }
        return all;
    }

    private List<Integer> ranking() {
        int[][] all = standings();
        List<Integer> order = new ArrayList<>();
        for (int i = 0; i < all.length; i++) {
            order.add(i);
        }
        Collections.sort(order, (x, y) -> all[x][0] != all[y][0] ? all[y][0] - all[x][0]
                : all[x][1] != all[y][1] ? all[y][1] - all[x][1] : x - y);
        return order;
    }

    private int inKnockout(int player, int week, int round) {
        List<Sheet> played = done(player, week);
        return round < played.size() ? played.get(round).total() + handicap(player) : 0;
    }

    private String champion(int week) {
        if (week < 0 || week > 19) {
            return ARGUMENT;
        }
        List<Integer> in = new ArrayList<>();
        for (int p = 0; p < players; p++) {
            if (!done(p, week).isEmpty()) {
                in.add(p);
            }
        }
        for (int round = 0; in.size() > 1; round++) {
            List<Integer> then = new ArrayList<>();
            for (int i = 0; i + 1 < in.size(); i += 2) {
                int lower = inKnockout(in.get(i), week, round);
                int higher = inKnockout(in.get(i + 1), week, round);
                then.add(in.get(lower >= higher ? i : i + 1));
            }
            if (in.size() % 2 == 1) {
                then.add(in.get(in.size() - 1));
            }
            in = then;
        }
        return in.isEmpty() ? MISSING : "" + in.get(0);
    }

    private String strikeShare() {
        int over = 0;
        int strikes = 0;
        for (Told g : games) {
            Sheet sheet = new Sheet(g.rolls);
            over += sheet.over;
            for (int f = 0; f < sheet.over; f++) {
                strikes += sheet.sign(f) == 'x' ? 1 : 0;
            }
        }
        return over == 0 ? ARITHMETIC : "" + (float) strikes / (float) over;
    }

    private String meanScore() {
        List<Sheet> all = done(-1, -1);
        long sum = all.stream().mapToLong(Sheet::total).sum();
        return all.isEmpty() ? ARITHMETIC : "" + (double) sum / (double) all.size();
    }

    int gameCount() {
        return games.size();
    }

    int legCount() {
        return legs.size();
    }

    int playerCount() {
        return players;
    }

    int teamCount() {
        return teams.size();
    }

    int rollCount(int game) {
        return games.get(game).rolls.size();
    }

    int dartCount(int leg) {
        return legs.get(leg).hits.size();
    }

    int standing(int game) {
        return new Sheet(games.get(game).rolls).stand;
    }

    /** The rest of the one whose turn it is. */
    int restOfTurn(int leg) {
        Board board = new Board(legs.get(leg));
        return board.rest[board.turn];
    }
}
