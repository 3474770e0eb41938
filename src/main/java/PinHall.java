import java.util.ArrayList;
import java.util.NoSuchElementException;

/**
 * A hall for bowling and darts in one: games of frames, legs of darts, handicaps, a league of
 * teams, a knockout for each week, and a pot for strikes.
 */
public final class PinHall {
    private static final int MOST_PLAYERS = 8;
    private static final int MOST_GAMES = 30;
    private static final int MOST_LEGS = 8;
    private static final int MOST_TEAMS = 4;
    private static final int MOST_MATCHES = 20;
    private static final int WEEKS = 20;

    private static final int FRAMES = 10;
    private static final int LAST_FRAME = FRAMES - 1;
    private static final int PINS = 10;
    private static final int MOST_ROLLS = 2 * FRAMES + 1;

    private static final int TURN = 3;
    private static final int MOST_DARTS = 60;
    private static final int LEAST_START = 2;
    private static final int MOST_START = 1001;
    private static final int BULL = 25;
    private static final int TOP_PART = 20;
    private static final int DOUBLE = 2;
    private static final int TRIPLE = 3;

    private static final int HUNDRED = 100;
    private static final int MOST_BASE = 300;
    private static final int ROUNDS = 3;
    private static final int BLIND_LOSS = 10;
    private static final int WIN_POINTS = 2;
    private static final int TIE_POINTS = 1;
    private static final int MATCH_POINTS = 8;
    private static final int MOST_PAID = 99;

    /** Stands for a score, a worth or an average that is not there: none of these is ever below 0. */
    private static final int NONE = -1;

    /** What comes of reading the rolls of a game again. */
    private static final int FITS = 0;
    private static final int TOO_MANY_PINS = 1;
    private static final int TOO_MANY_ROLLS = 2;

    private final ArrayList<Player> players = new ArrayList<Player>();
    private final ArrayList<Game> games = new ArrayList<Game>();
    private final ArrayList<Leg> legs = new ArrayList<Leg>();
    private final ArrayList<Team> teams = new ArrayList<Team>();
    private final ArrayList<Match> matches = new ArrayList<Match>();
    /** The players that are left in a knockout; made once, since every knockout uses it anew. */
    private final int[] field = new int[MOST_PLAYERS];
    private int percent = 80;
    private int base = 200;
    private int cap = 60;
    private int pot = 0;

    public PinHall() {
    }

    public int addPlayer() throws IllegalStateException {
        if (players.size() >= MOST_PLAYERS) {
            throw new IllegalStateException("there are 8 players");
        }
        players.add(new Player());
        return players.size() - 1;
    }

    // ---- games

    public int begin(int player, int week)
            throws IndexOutOfBoundsException, IllegalArgumentException, IllegalStateException {
        Player its = playerAt(player);
        requireWeek(week);
        if (games.size() >= MOST_GAMES) {
            throw new IllegalStateException("there are 30 games");
        }
        Game begun = new Game(its, week);
        games.add(begun);
        its.games.add(begun);
        return games.size() - 1;
    }

    public int roll(int game, int pins, boolean isFoul)
            throws IndexOutOfBoundsException, UnsupportedOperationException, IllegalArgumentException {
        Game its = gameAt(game);
        if (its.isOverAll()) {
            throw new UnsupportedOperationException("the game is done");
        }
        if (pins < 0 || pins > its.upright) {
            throw new IllegalArgumentException("less than 0 pins, or more than stand");
        }
        return its.add(pins, isFoul);
    }

    public int fix(int game, int roll, int pins, boolean isFoul)
            throws IndexOutOfBoundsException, IllegalArgumentException, UnsupportedOperationException {
        Game its = gameAt(game);
        if (roll < 0 || roll >= its.count) {
            throw new IndexOutOfBoundsException("no such roll");
        }
        if (pins < 0) {
            throw new IllegalArgumentException("less than 0 pins");
        }
        int outcome = its.correct(roll, pins, isFoul);
        if (outcome == TOO_MANY_PINS) {
            throw new IllegalArgumentException("a roll would have more pins than stand");
        }
        if (outcome == TOO_MANY_ROLLS) {
            throw new UnsupportedOperationException("the game would be done ahead of its last roll");
        }
        return its.framesWithRoll();
    }

    public int rolls(int game) throws IndexOutOfBoundsException {
        return gameAt(game).count;
    }

    public int standing(int game) throws IndexOutOfBoundsException {
        return gameAt(game).upright;
    }

    public boolean isDone(int game) throws IndexOutOfBoundsException {
        return gameAt(game).isOverAll();
    }

    public int score(int game, int frame)
            throws IndexOutOfBoundsException, IllegalArgumentException, NoSuchElementException {
        Game its = gameAt(game);
        requireFrame(frame);
        if (frame >= its.decided) {
            throw new NoSuchElementException("the score is not decided");
        }
        return its.kept[frame];
    }

    public char frame(int game, int frame) throws IndexOutOfBoundsException, IllegalArgumentException {
        Game its = gameAt(game);
        requireFrame(frame);
        if (its.isStrike(frame)) {
            return 'x';
        }
        if (its.isSpare(frame)) {
            return '/';
        }
        return its.isOver(frame) ? 'o' : '-';
    }

    // ---- legs

    public int leg(int one, int other, int start, boolean isDoubleIn)
            throws IndexOutOfBoundsException, IllegalArgumentException, IllegalStateException {
        playerAt(one);
        playerAt(other);
        if (one == other || start < LEAST_START || start > MOST_START) {
            throw new IllegalArgumentException("the same player twice, or the start is out of range");
        }
        if (legs.size() >= MOST_LEGS) {
            throw new IllegalStateException("there are 8 legs");
        }
        legs.add(new Leg(one, other, start, isDoubleIn));
        return legs.size() - 1;
    }

    public int dart(int leg, int part, int times)
            throws IndexOutOfBoundsException, IllegalArgumentException, UnsupportedOperationException,
            IllegalStateException {
        Leg its = legAt(leg);
        requireHit(part, times);
        if (its.isWon) {
            throw new UnsupportedOperationException("the leg is won");
        }
        if (its.count >= MOST_DARTS) {
            throw new IllegalStateException("the leg has 60 darts");
        }
        return its.add(part, times);
    }

    public int fixDart(int leg, int dart, int part, int times)
            throws IndexOutOfBoundsException, IllegalArgumentException, UnsupportedOperationException {
        Leg its = legAt(leg);
        if (dart < 0 || dart >= its.count) {
            throw new IndexOutOfBoundsException("no such dart");
        }
        requireHit(part, times);
        if (!its.correct(dart, part, times)) {
            throw new UnsupportedOperationException("the leg would be won ahead of its last dart");
        }
        return its.thrower();
    }

    public int rest(int leg, int which) throws IndexOutOfBoundsException, IllegalArgumentException {
        Leg its = legAt(leg);
        if (which != 0 && which != 1) {
            throw new IllegalArgumentException("neither 0 nor 1");
        }
        return its.rests[which];
    }

    public int turnOf(int leg) throws IndexOutOfBoundsException, NoSuchElementException {
        Leg its = legAt(leg);
        if (its.isWon) {
            throw new NoSuchElementException("the leg is won");
        }
        return its.thrower();
    }

    public int winner(int leg) throws IndexOutOfBoundsException, NoSuchElementException {
        Leg its = legAt(leg);
        if (!its.isWon) {
            throw new NoSuchElementException("the leg is not won");
        }
        return its.thrower();
    }

    public int busts(int leg) throws IndexOutOfBoundsException {
        return legAt(leg).bustCount;
    }

    public int wayOut(int leg) throws IndexOutOfBoundsException, NoSuchElementException {
        int darts = legAt(leg).findWay();
        if (darts == 0) {
            throw new NoSuchElementException("the leg is won, or there is no way out");
        }
        return darts;
    }

    public int wayOutAt(int leg, int index) throws IndexOutOfBoundsException, NoSuchElementException {
        Leg its = legAt(leg);
        int darts = its.findWay();
        if (index < 0 || index >= darts) {
            throw new NoSuchElementException("the leg is won, or there is no such dart");
        }
        return its.way[index];
    }

    // ---- handicaps and the league

    public int setHandicap(int percent, int base, int cap) throws IllegalArgumentException {
        boolean fits = percent >= 0 && percent <= HUNDRED && base >= 0 && base <= MOST_BASE
                && cap >= 0 && cap <= MOST_BASE;
        if (!fits) {
            throw new IllegalArgumentException("a number is out of range");
        }
        int before = this.percent;
        this.percent = percent;
        this.base = base;
        this.cap = cap;
        return before;
    }

    public int average(int player) throws IndexOutOfBoundsException, NoSuchElementException {
        int mean = playerAt(player).mean();
        if (mean == NONE) {
            throw new NoSuchElementException("no game is done");
        }
        return mean;
    }

    public int handicap(int player) throws IndexOutOfBoundsException {
        return handicapOf(playerAt(player));
    }

    public int team(int one, int other)
            throws IndexOutOfBoundsException, IllegalArgumentException, UnsupportedOperationException,
            IllegalStateException {
        Player first = playerAt(one);
        Player second = playerAt(other);
        if (one == other) {
            throw new IllegalArgumentException("the same player twice");
        }
        if (first.isInTeam || second.isInTeam) {
            throw new UnsupportedOperationException("one of them is in a team");
        }
        if (teams.size() >= MOST_TEAMS) {
            throw new IllegalStateException("there are 4 teams");
        }
        first.isInTeam = true;
        second.isInTeam = true;
        teams.add(new Team(first, second));
        return teams.size() - 1;
    }

    public int match(int one, int other, int week)
            throws IndexOutOfBoundsException, IllegalArgumentException, UnsupportedOperationException,
            IllegalStateException {
        Team first = teamAt(one);
        Team second = teamAt(other);
        if (one == other) {
            throw new IllegalArgumentException("the same team twice");
        }
        requireWeek(week);
        if (hasMatch(first, week) || hasMatch(second, week)) {
            throw new UnsupportedOperationException("one of them has a match in this week");
        }
        if (matches.size() >= MOST_MATCHES) {
            throw new IllegalStateException("there are 20 matches");
        }
        matches.add(new Match(first, second, week));
        return matches.size();
    }

    public int points(int team) throws IndexOutOfBoundsException {
        Team its = teamAt(team);
        reckonTeams();
        return its.won;
    }

    public int ranked(int rank) throws IndexOutOfBoundsException {
        if (rank < 0 || rank >= teams.size()) {
            throw new IndexOutOfBoundsException("no such rank");
        }
        reckonTeams();
        for (int team = 0; team < teams.size(); team++) {
            if (teamsAhead(team) == rank) {
                return team;
            }
        }
        // Never reached: no two teams have the same rank, so one has this one.
        return NONE;
    }

    public int champion(int week) throws IllegalArgumentException, NoSuchElementException {
        requireWeek(week);
        int left = gatherField(week);
        if (left == 0) {
            throw new NoSuchElementException("nobody is in it");
        }
        for (int round = 0; round < MOST_PLAYERS && left > 1; round++) {
            left = playRound(week, round, left);
        }
        return field[0];
    }

    // ---- the pot

    public int pay(int player, int amount) throws IndexOutOfBoundsException, IllegalArgumentException {
        Player payer = playerAt(player);
        if (amount < 1 || amount > MOST_PAID) {
            throw new IllegalArgumentException("the amount is out of range");
        }
        payer.paid += amount;
        pot += amount;
        return pot;
    }

    public int tries(int game, int frame)
            throws IndexOutOfBoundsException, IllegalArgumentException, UnsupportedOperationException {
        Game its = gameAt(game);
        requireFrame(frame);
        if (its.lengths[frame] == 0 || its.tried[frame]) {
            throw new UnsupportedOperationException("the frame has no roll, or was tried");
        }
        its.tried[frame] = true;
        if (!its.isStrike(frame)) {
            return 0;
        }
        int paidOut = pot;
        its.player.got += paidOut;
        pot = 0;
        return paidOut;
    }

    public int purse(int player) throws IndexOutOfBoundsException {
        Player its = playerAt(player);
        return its.got - its.paid;
    }

    // ---- figures

    public long pins() {
        long sum = 0;
        for (int i = 0; i < games.size(); i++) {
            if (games.get(i).isOverAll()) {
                sum += games.get(i).total();
            }
        }
        return sum;
    }

    public float strikeShare() throws ArithmeticException {
        int strikes = 0;
        int over = 0;
        for (int i = 0; i < games.size(); i++) {
            strikes += games.get(i).strikesOver();
            over += games.get(i).frame;
        }
        if (over == 0) {
            throw new ArithmeticException("no frame is over");
        }
        return (float) strikes / (float) over;
    }

    public double meanScore() throws ArithmeticException {
        int done = 0;
        for (int i = 0; i < games.size(); i++) {
            if (games.get(i).isOverAll()) {
                done++;
            }
        }
        if (done == 0) {
            throw new ArithmeticException("no game is done");
        }
        return (double) pins() / (double) done;
    }

    public boolean isSound() {
        for (int i = 0; i < games.size(); i++) {
            if (!games.get(i).isKeptRight()) {
                return false;
            }
        }
        int inPot = 0;
        for (int i = 0; i < players.size(); i++) {
            inPot += players.get(i).paid - players.get(i).got;
        }
        reckonTeams();
        int points = 0;
        for (int i = 0; i < teams.size(); i++) {
            points += teams.get(i).won;
        }
        return inPot == pot && points == MATCH_POINTS * matches.size();
    }

    // ---- looking up and refusing

    private Player playerAt(int player) {
        if (player < 0 || player >= players.size()) {
            throw new IndexOutOfBoundsException("no such player");
        }
        return players.get(player);
    }

    private Game gameAt(int game) {
        if (game < 0 || game >= games.size()) {
            throw new IndexOutOfBoundsException("no such game");
        }
        return games.get(game);
    }

    private Leg legAt(int leg) {
        if (leg < 0 || leg >= legs.size()) {
            throw new IndexOutOfBoundsException("no such leg");
        }
        return legs.get(leg);
    }

    private Team teamAt(int team) {
        if (team < 0 || team >= teams.size()) {
            throw new IndexOutOfBoundsException("no such team");
        }
        return teams.get(team);
    }

    private static void requireWeek(int week) {
        if (week < 0 || week >= WEEKS) {
            throw new IllegalArgumentException("the week is out of range");
        }
    }

    private static void requireFrame(int frame) {
        if (frame < 0 || frame >= FRAMES) {
            throw new IllegalArgumentException("no such frame");
        }
    }

    private static void requireHit(int part, int times) {
        if (!isHit(part, times)) {
            throw new IllegalArgumentException("no such hit");
        }
    }

    private static boolean isHit(int part, int times) {
        if (times < 1 || part < 0) {
            return false;
        }
        if (part == 0) {
            return times == 1;
        }
        return part <= TOP_PART ? times <= TRIPLE : part == BULL && times <= DOUBLE;
    }

    // ---- reckoning handicaps, the league and the knockout

    private int handicapOf(Player player) {
        int mean = player.mean();
        if (mean == NONE) {
            return 0;
        }
        int full = Math.floorDiv((base - mean) * percent, HUNDRED);
        return Math.max(0, Math.min(full, cap));
    }

    private boolean hasMatch(Team team, int week) {
        for (int i = 0; i < matches.size(); i++) {
            Match told = matches.get(i);
            if (told.week == week && (told.one == team || told.other == team)) {
                return true;
            }
        }
        return false;
    }

    /** Nothing of the league is kept: a correction may change any round of any match. */
    private void reckonTeams() {
        for (int i = 0; i < teams.size(); i++) {
            teams.get(i).won = 0;
            teams.get(i).sum = 0;
        }
        for (int i = 0; i < matches.size(); i++) {
            settle(matches.get(i));
        }
    }

    private void settle(Match match) {
        Team one = match.one;
        Team other = match.other;
        int oneSum = 0;
        int otherSum = 0;
        for (int round = 0; round < ROUNDS; round++) {
            int ones = inLeague(one.first, match.week, round) + inLeague(one.second, match.week, round);
            int others = inLeague(other.first, match.week, round) + inLeague(other.second, match.week, round);
            award(one, other, ones, others);
            oneSum += ones;
            otherSum += others;
        }
        award(one, other, oneSum, otherSum);
        one.sum += oneSum;
        other.sum += otherSum;
    }

    private static void award(Team one, Team other, int ones, int others) {
        if (ones == others) {
            one.won += TIE_POINTS;
            other.won += TIE_POINTS;
        } else if (ones > others) {
            one.won += WIN_POINTS;
        } else {
            other.won += WIN_POINTS;
        }
    }

    private int inLeague(Player player, int week, int round) {
        Game played = player.doneGame(week, round);
        if (played != null) {
            return played.total() + handicapOf(player);
        }
        int mean = player.mean();
        if (mean == NONE) {
            return 0;
        }
        return Math.max(0, mean - BLIND_LOSS) + handicapOf(player);
    }

    private int inKnockout(Player player, int week, int round) {
        Game played = player.doneGame(week, round);
        return played == null ? 0 : played.total() + handicapOf(player);
    }

    private int teamsAhead(int team) {
        int ahead = 0;
        for (int i = 0; i < teams.size(); i++) {
            if (i != team && isAhead(i, team)) {
                ahead++;
            }
        }
        return ahead;
    }

    private boolean isAhead(int team, int than) {
        Team one = teams.get(team);
        Team other = teams.get(than);
        if (one.won != other.won) {
            return one.won > other.won;
        }
        if (one.sum != other.sum) {
            return one.sum > other.sum;
        }
        return team < than;
    }

    private int gatherField(int week) {
        int left = 0;
        for (int i = 0; i < players.size() && left < field.length; i++) {
            if (players.get(i).doneGame(week, 0) != null) {
                field[left] = i;
                left++;
            }
        }
        return left;
    }

    /** Who goes on moves to the front of the field, so the order of the numbers stays. */
    private int playRound(int week, int round, int left) {
        int next = 0;
        for (int i = 0; i < left; i += 2) {
            int goesOn = field[i];
            if (i + 1 < left) {
                int lower = inKnockout(players.get(field[i]), week, round);
                int higher = inKnockout(players.get(field[i + 1]), week, round);
                goesOn = higher > lower ? field[i + 1] : field[i];
            }
            field[next] = goesOn;
            next++;
        }
        return next;
    }

    private static final class Player {
        final ArrayList<Game> games = new ArrayList<Game>();
        boolean isInTeam;
        int paid;
        int got;

        /** The average, or NONE. */
        int mean() {
            int sum = 0;
            int done = 0;
            for (int i = 0; i < games.size(); i++) {
                Game game = games.get(i);
                if (game.isOverAll()) {
                    sum += game.total();
                    done++;
                }
            }
            return done == 0 ? NONE : sum / done;
        }

        /** The game with this number among those that are done in the week, or null. */
        Game doneGame(int week, int number) {
            int ahead = 0;
            for (int i = 0; i < games.size(); i++) {
                Game game = games.get(i);
                if (game.week == week && game.isOverAll()) {
                    if (ahead == number) {
                        return game;
                    }
                    ahead++;
                }
            }
            return null;
        }
    }

    private static final class Team {
        final Player first;
        final Player second;
        int won;
        int sum;

        Team(Player first, Player second) {
            this.first = first;
            this.second = second;
        }
    }

    private static final class Match {
        final Team one;
        final Team other;
        final int week;

        Match(Team one, Team other, int week) {
            this.one = one;
            this.other = other;
            this.week = week;
        }
    }

    /** A game, with its rolls as they were told and what was read from them. */
    private static final class Game {
        final Player player;
        final int week;
        /** A foul keeps the pins it would have taken: they are checked again when rolls are read again. */
        final int[] told = new int[MOST_ROLLS];
        final boolean[] fouls = new boolean[MOST_ROLLS];
        int count = 0;

        /** The first roll of each frame, for those with a roll. */
        final int[] starts = new int[FRAMES];
        final int[] lengths = new int[FRAMES];
        final int[] kept = new int[FRAMES];
        final boolean[] tried = new boolean[FRAMES];
        /** The frame of the next roll, which is also how many frames are over. */
        int frame = 0;
        int upright = PINS;
        /** How many frames, from the first one on, have a score in kept. */
        int decided = 0;

        Game(Player player, int week) {
            this.player = player;
            this.week = week;
        }

        boolean isOverAll() {
            return frame == FRAMES;
        }

        /** The score of a game that is done. */
        int total() {
            return kept[LAST_FRAME];
        }

        boolean isOver(int which) {
            return which < frame;
        }

        boolean isStrike(int which) {
            return lengths[which] > 0 && taken(starts[which]) == PINS;
        }

        boolean isSpare(int which) {
            return lengths[which] > 1 && !isStrike(which) && takenByTwo(which) == PINS;
        }

        int framesWithRoll() {
            return frame < FRAMES && lengths[frame] > 0 ? frame + 1 : frame;
        }

        int strikesOver() {
            int strikes = 0;
            for (int i = 0; i < frame; i++) {
                if (isStrike(i)) {
                    strikes++;
                }
            }
            return strikes;
        }

        /** Adds a roll that fits to a game that is not done, and answers its frame. */
        int add(int pins, boolean isFoul) {
            int itsFrame = frame;
            told[count] = pins;
            fouls[count] = isFoul;
            count++;
            read(count - 1);
            keepScores();
            return itsFrame;
        }

        /** Corrects a roll if all rolls fit then; otherwise all stays as it was. */
        int correct(int roll, int pins, boolean isFoul) {
            int oldPins = told[roll];
            boolean wasFoul = fouls[roll];
            told[roll] = pins;
            fouls[roll] = isFoul;
            int outcome = readAll();
            if (outcome != FITS) {
                told[roll] = oldPins;
                fouls[roll] = wasFoul;
                readAll();
            }
            keepScores();
            return outcome;
        }

        private int readAll() {
            for (int i = 0; i < FRAMES; i++) {
                lengths[i] = 0;
            }
            frame = 0;
            upright = PINS;
            for (int i = 0; i < count; i++) {
                if (isOverAll()) {
                    return TOO_MANY_ROLLS;
                }
                if (told[i] > upright) {
                    return TOO_MANY_PINS;
                }
                read(i);
            }
            return FITS;
        }

        private void read(int roll) {
            if (lengths[frame] == 0) {
                starts[frame] = roll;
            }
            lengths[frame]++;
            upright -= taken(roll);
            if (frame == LAST_FRAME) {
                settleLastFrame();
            } else if (upright == 0 || lengths[frame] == 2) {
                frame++;
                upright = PINS;
            }
        }

        private void settleLastFrame() {
            int length = lengths[LAST_FRAME];
            // Two rolls that took less than 10 in all never had the pins set up again.
            if (length == 3 || length == 2 && takenByTwo(LAST_FRAME) < PINS) {
                frame = FRAMES;
                upright = 0;
            } else if (upright == 0) {
                upright = PINS;
            }
        }

        private int taken(int roll) {
            return fouls[roll] ? 0 : told[roll];
        }

        private int takenByTwo(int which) {
            return taken(starts[which]) + taken(starts[which] + 1);
        }

        private void keepScores() {
            int sum = 0;
            decided = 0;
            for (int i = 0; i < frame; i++) {
                int worth = worthOf(i);
                if (worth == NONE) {
                    return;
                }
                sum += worth;
                kept[i] = sum;
                decided = i + 1;
            }
        }

        /** What a frame that is over counts, or NONE while a roll that counts for it is not there. */
        private int worthOf(int which) {
            int end = starts[which] + lengths[which];
            if (which < LAST_FRAME) {
                if (isStrike(which)) {
                    end += 2;
                } else if (isSpare(which)) {
                    end += 1;
                }
            }
            if (end > count) {
                return NONE;
            }
            int worth = 0;
            for (int i = starts[which]; i < end; i++) {
                worth += taken(i);
            }
            return worth;
        }

        /** Finds the scores from the last frame back, unlike keepScores, and compares them. */
        boolean isKeptRight() {
            int next = NONE;
            int afterNext = NONE;
            int due = decided == 0 ? 0 : kept[decided - 1];
            for (int i = LAST_FRAME; i >= 0; i--) {
                int worth = isOver(i) ? worthFrom(i, next, afterNext) : NONE;
                if ((worth == NONE) == (i < decided) || worth != NONE && kept[i] != due) {
                    return false;
                }
                due -= worth == NONE ? 0 : worth;
                for (int j = lengths[i] - 1; j >= 0; j--) {
                    afterNext = next;
                    next = taken(starts[i] + j);
                }
            }
            return due == 0;
        }

        private int worthFrom(int which, int next, int afterNext) {
            if (which < LAST_FRAME && isStrike(which)) {
                return next == NONE || afterNext == NONE ? NONE : PINS + next + afterNext;
            }
            if (which < LAST_FRAME && isSpare(which)) {
                return next == NONE ? NONE : PINS + next;
            }
            int worth = 0;
            for (int j = lengths[which] - 1; j >= 0; j--) {
                worth += taken(starts[which] + j);
            }
            return worth;
        }
    }

    /** A leg, with its darts as they were told and what was read from them. */
    private static final class Leg {
        final int one;
        final int other;
        final int start;
        final boolean isDoubleIn;
        final int[] parts = new int[MOST_DARTS];
        final int[] times = new int[MOST_DARTS];
        int count = 0;

        final int[] rests = new int[2];
        final boolean[] areIn = new boolean[2];
        /** Whose turn it is, 0 or 1; the winner once the leg is won. */
        int turn;
        int left;
        int restBefore;
        boolean wasInBefore;
        int bustCount;
        boolean isWon;
        /** The best way out, from its first dart on; findWay tells how much of it holds. */
        final int[] way = new int[TURN];

        Leg(int one, int other, int start, boolean isDoubleIn) {
            this.one = one;
            this.other = other;
            this.start = start;
            this.isDoubleIn = isDoubleIn;
            startOver();
        }

        private void startOver() {
            for (int i = 0; i < 2; i++) {
                rests[i] = start;
                areIn[i] = !isDoubleIn;
            }
            bustCount = 0;
            isWon = false;
            beginTurn(0);
        }

        private void beginTurn(int which) {
            turn = which;
            left = TURN;
            restBefore = rests[which];
            wasInBefore = areIn[which];
        }

        /** The player whose turn it is, or who has won. */
        int thrower() {
            return turn == 0 ? one : other;
        }

        /** Adds a dart to a leg that is not won, and answers the rest of who threw it. */
        int add(int part, int often) {
            int which = turn;
            parts[count] = part;
            times[count] = often;
            count++;
            read(count - 1);
            return rests[which];
        }

        /** Corrects a dart unless the leg would be won ahead of its last one; then all stays as it was. */
        boolean correct(int dart, int part, int often) {
            int oldPart = parts[dart];
            int oldTimes = times[dart];
            parts[dart] = part;
            times[dart] = often;
            boolean fits = readAll();
            if (!fits) {
                parts[dart] = oldPart;
                times[dart] = oldTimes;
                readAll();
            }
            return fits;
        }

        private boolean readAll() {
            startOver();
            for (int i = 0; i < count; i++) {
                if (isWon) {
                    return false;
                }
                read(i);
            }
            return true;
        }

        private void read(int dart) {
            boolean isDouble = times[dart] == DOUBLE;
            areIn[turn] = areIn[turn] || isDouble;
            int then = rests[turn] - (areIn[turn] ? parts[dart] * times[dart] : 0);
            if (then < 0 || then == 1 || then == 0 && !isDouble) {
                bust();
                return;
            }
            rests[turn] = then;
            left--;
            if (then == 0) {
                isWon = true;
            } else if (left == 0) {
                beginTurn(1 - turn);
            }
        }

        private void bust() {
            rests[turn] = restBefore;
            areIn[turn] = wasInBefore;
            bustCount++;
            beginTurn(1 - turn);
        }

        /** Puts the best way out into way and answers how many darts it has, or 0 without one. */
        int findWay() {
            if (isWon) {
                return 0;
            }
            for (int darts = 1; darts <= left; darts++) {
                if (fillWay(way, 0, darts, rests[turn], areIn[turn])) {
                    return darts;
                }
            }
            return 0;
        }

        /**
         * Fills way from the place at up to darts with the lowest darts that end the leg there. It calls
         * itself once for each dart of a turn, so at most three deep.
         */
        private static boolean fillWay(int[] way, int at, int darts, int rest, boolean isIn) {
            if (at >= darts || darts > way.length || rest > mostOf(darts - at)) {
                return false;
            }
            if (at == darts - 1) {
                way[at] = endingDouble(rest);
                return way[at] != 0;
            }
            for (int part = 1; part <= BULL; part++) {
                for (int often = 1; often <= TRIPLE; often++) {
                    boolean isInThen = isIn || often == DOUBLE;
                    int then = rest - (isInThen ? part * often : 0);
                    if (isHit(part, often) && then > 1 && fillWay(way, at + 1, darts, then, isInThen)) {
                        way[at] = codeOf(part, often);
                        return true;
                    }
                }
            }
            return false;
        }

        private static int codeOf(int part, int often) {
            return 10 * part + often;
        }

        /** The most that so many darts can take if the last one is a double. */
        private static int mostOf(int darts) {
            return (darts - 1) * TRIPLE * TOP_PART + DOUBLE * BULL;
        }

        /** The double that takes all of the rest, or 0: a double counts whether the player is in or not. */
        private static int endingDouble(int rest) {
            int part = rest / 2;
            return rest % 2 == 0 && part > 0 && isHit(part, DOUBLE) ? codeOf(part, DOUBLE) : 0;
        }
    }
}
