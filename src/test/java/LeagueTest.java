import java.util.NoSuchElementException;

/** Promises 20 to 27. */
public final class LeagueTest {
    private static final Checks CHECKS = new Checks();

    public static void main(String[] args) {
        setHandicap();
        average();
        handicap();
        team();
        match();
        mostMatches();
        pointsByRounds();
        pointsByBlinds();
        pointsByGamesOfTheWeek();
        pointsAsThingsAreNow();
        pointsOfThreeRoundsAlone();
        ranked();
        rankedBySums();
        champion();
        championByRounds();
        championOfEight();
        CHECKS.end();
    }

    private static void setHandicap() {
        PinHall hall = Halls.withPlayers(1);
        int[][] wrong = {{-1, 0, 0}, {101, 0, 0}, {0, -1, 0}, {0, 301, 0}, {0, 0, -1}, {0, 0, 301}};
        for (int[] w : wrong) {
            CHECKS.refused("20: " + w[0] + " " + w[1] + " " + w[2], IllegalArgumentException.class,
                    () -> hall.setHandicap(w[0], w[1], w[2]));
        }
        Halls.scoring(hall, 0, 0, 60);
        CHECKS.due("22: 112 at most 60 at first", hall.handicap(0), 60);
        CHECKS.due("20: 80 at first", hall.setHandicap(100, 300, 300), 80);
        CHECKS.due("22: all of 240", hall.handicap(0), 240);
        CHECKS.due("20: then 100", hall.setHandicap(0, 0, 0), 100);
        CHECKS.due("22: nothing", hall.handicap(0), 0);
        CHECKS.due("20: then 0", hall.setHandicap(33, 70, 300), 0);
        CHECKS.due("22: 3.3 is 3", hall.handicap(0), 3);
        hall.setHandicap(50, 101, 20);
        CHECKS.due("22: 20.5 is 20", hall.handicap(0), 20);
        hall.setHandicap(50, 200, 20);
        CHECKS.due("22: 70, but at most 20", hall.handicap(0), 20);
    }

    private static void average() {
        PinHall hall = Halls.withPlayers(2);
        CHECKS.refused("21: player -1", IndexOutOfBoundsException.class, () -> hall.average(-1));
        CHECKS.refused("21: player 2", IndexOutOfBoundsException.class, () -> hall.average(2));
        CHECKS.refused("21: no game", NoSuchElementException.class, () -> hall.average(0));
        int game = hall.begin(0, 0);
        hall.roll(game, 9, false);
        CHECKS.refused("21: no game that is done", NoSuchElementException.class, () -> hall.average(0));
        Halls.scoring(hall, 0, 3, 50);
        CHECKS.due("21: of one", hall.average(0), 50);
        Halls.scoring(hall, 0, 7, 81);
        CHECKS.due("21: of two weeks, rounded down", hall.average(0), 65);
        Halls.scoring(hall, 1, 3, 0);
        CHECKS.due("21: 0 is one too", hall.average(1), 0);
        CHECKS.due("21: others' games do not count", hall.average(0), 65);
        hall.fix(1, 0, 8, false);
        CHECKS.due("21: a correction counts", hall.average(0), 65);
        hall.fix(1, 0, 7, false);
        CHECKS.due("21: 48 and 81", hall.average(0), 64);
    }

    private static void handicap() {
        PinHall hall = Halls.withPlayers(3);
        CHECKS.refused("22: player -1", IndexOutOfBoundsException.class, () -> hall.handicap(-1));
        CHECKS.refused("22: player 3", IndexOutOfBoundsException.class, () -> hall.handicap(3));
        CHECKS.due("22: none without an average", hall.handicap(0), 0);
        Halls.perfect(hall, 0, 0);
        CHECKS.due("22: 0 at least", hall.handicap(0), 0);
        int game = hall.begin(1, 0);
        for (int i = 0; i < 21; i++) {
            hall.roll(game, 5, false);
        }
        CHECKS.due("22: 80 of 50", hall.handicap(1), 40);
        hall.fix(game, 20, 4, false);
        CHECKS.due("22: 40.8", hall.handicap(1), 40);
        hall.fix(game, 20, 0, false);
        CHECKS.due("22: 44", hall.handicap(1), 44);
        Halls.scoring(hall, 2, 0, 0);
        CHECKS.due("22: 160, but at most 60", hall.handicap(2), 60);
    }

    private static void team() {
        PinHall hall = Halls.withPlayers(8);
        CHECKS.refused("23: player -1", IndexOutOfBoundsException.class, () -> hall.team(-1, 0));
        CHECKS.refused("23: player 8", IndexOutOfBoundsException.class, () -> hall.team(8, 8));
        CHECKS.refused("23: other -1", IndexOutOfBoundsException.class, () -> hall.team(0, -1));
        CHECKS.refused("23: other 8", IndexOutOfBoundsException.class, () -> hall.team(0, 8));
        CHECKS.refused("23: the same", IllegalArgumentException.class, () -> hall.team(0, 0));
        CHECKS.due("23: first team", hall.team(4, 2), 0);
        CHECKS.refused("23: the same, in a team", IllegalArgumentException.class, () -> hall.team(2, 2));
        CHECKS.refused("23: one is in a team", UnsupportedOperationException.class, () -> hall.team(4, 0));
        CHECKS.refused("23: other is in a team", UnsupportedOperationException.class, () -> hall.team(0, 2));
        CHECKS.refused("23: both are", UnsupportedOperationException.class, () -> hall.team(2, 4));
        CHECKS.due("23: 0 is in none yet", hall.team(0, 1), 1);
        CHECKS.due("23: third team", hall.team(3, 5), 2);
        CHECKS.due("23: fourth team", hall.team(6, 7), 3);
        CHECKS.refused("23: all are in one", UnsupportedOperationException.class, () -> hall.team(0, 7));
        CHECKS.refused("23: no fifth", IndexOutOfBoundsException.class, () -> hall.points(4));
    }

    private static PinHall withTeams(int count) {
        PinHall hall = Halls.withPlayers(2 * count);
        for (int i = 0; i < count; i++) {
            hall.team(2 * i, 2 * i + 1);
        }
        return hall;
    }

    private static void match() {
        PinHall hall = withTeams(4);
        CHECKS.refused("24: team -1", IndexOutOfBoundsException.class, () -> hall.match(-1, 0, 0));
        CHECKS.refused("24: team 4 ahead of week", IndexOutOfBoundsException.class, () -> hall.match(4, 0, 20));
        CHECKS.refused("24: other -1", IndexOutOfBoundsException.class, () -> hall.match(0, -1, 0));
        CHECKS.refused("24: other 4", IndexOutOfBoundsException.class, () -> hall.match(0, 4, 0));
        CHECKS.refused("24: nobody twice", IndexOutOfBoundsException.class, () -> hall.match(4, 4, 0));
        CHECKS.refused("24: the same", IllegalArgumentException.class, () -> hall.match(1, 1, 0));
        CHECKS.refused("24: week -1", IllegalArgumentException.class, () -> hall.match(0, 1, -1));
        CHECKS.refused("24: week 20", IllegalArgumentException.class, () -> hall.match(0, 1, 20));
        CHECKS.due("24: one", hall.match(0, 1, 5), 1);
        CHECKS.refused("24: one has a match", UnsupportedOperationException.class, () -> hall.match(0, 2, 5));
        CHECKS.refused("24: one has, as the other", UnsupportedOperationException.class, () -> hall.match(1, 2, 5));
        CHECKS.refused("24: other has", UnsupportedOperationException.class, () -> hall.match(2, 0, 5));
        CHECKS.refused("24: other has, as the other", UnsupportedOperationException.class, () -> hall.match(2, 1, 5));
        CHECKS.refused("24: the same, with a match", IllegalArgumentException.class, () -> hall.match(1, 1, 5));
        CHECKS.due("24: the other two", hall.match(3, 2, 5), 2);
        CHECKS.due("24: another week", hall.match(1, 0, 0), 3);
        CHECKS.due("24: last week", hall.match(1, 0, 19), 4);
        CHECKS.due("25: refused ones are not told", hall.points(0) + hall.points(1), 24);
    }

    private static void mostMatches() {
        PinHall hall = withTeams(4);
        for (int week = 0; week < 10; week++) {
            hall.match(0, 1, week);
            CHECKS.due("24: matches after week " + week, hall.match(2, 3, week), 2 * week + 2);
        }
        CHECKS.refused("24: a 21st match", IllegalStateException.class, () -> hall.match(0, 1, 10));
        CHECKS.refused("24: match ahead of matches", UnsupportedOperationException.class, () -> hall.match(0, 1, 9));
        CHECKS.refused("24: week ahead of matches", IllegalArgumentException.class, () -> hall.match(0, 1, 20));
        CHECKS.due("25: 10 matches without games", hall.points(0), 40);
        CHECKS.due("34: 8 for each of 20", hall.isSound(), true);
    }

    /** Without handicaps, so that scores alone tell. */
    private static PinHall withPlainTeams(int count) {
        PinHall hall = withTeams(count);
        hall.setHandicap(0, 0, 0);
        return hall;
    }

    private static void pointsByRounds() {
        PinHall hall = withPlainTeams(2);
        CHECKS.refused("25: team -1", IndexOutOfBoundsException.class, () -> hall.points(-1));
        CHECKS.refused("25: team 2", IndexOutOfBoundsException.class, () -> hall.points(2));
        CHECKS.due("25: no match", hall.points(0), 0);
        hall.match(0, 1, 4);
        CHECKS.due("25: all the same", hall.points(0), 4);
        for (int round = 0; round < 3; round++) {
            Halls.scoring(hall, 0, 4, new int[] {30, 40, 50}[round]);
            Halls.scoring(hall, 1, 4, 10);
            Halls.scoring(hall, 2, 4, new int[] {20, 40, 80}[round]);
            Halls.scoring(hall, 3, 4, 10);
        }
        CHECKS.due("25: a round won and one shared", hall.points(0), 3);
        CHECKS.due("25: the last round and the sum", hall.points(1), 5);
    }

    private static void pointsByBlinds() {
        PinHall hall = withPlainTeams(2);
        hall.match(0, 1, 4);
        Halls.scoring(hall, 0, 4, 50);
        CHECKS.due("25: 50, 40, 40 against nothing", hall.points(0), 8);
        Halls.scoring(hall, 2, 3, 55);
        CHECKS.due("25: 50, 40, 40 against blinds of 45", hall.points(0), 2);
        CHECKS.due("25: these win two and the sum", hall.points(1), 6);
        PinHall ten = withPlainTeams(2);
        ten.match(0, 1, 4);
        Halls.scoring(ten, 0, 4, 50);
        for (int i = 0; i < 3; i++) {
            Halls.scoring(ten, 2, 4, 40);
        }
        CHECKS.due("25: a blind is 10 less, neither 9 nor 11", ten.points(0), 6);
        PinHall low = withPlainTeams(2);
        low.match(0, 1, 4);
        Halls.scoring(low, 0, 0, 9);
        CHECKS.due("25: a blind is 0 at least", low.points(1), 4);
        PinHall given = withTeams(2);
        given.setHandicap(100, 40, 300);
        given.match(0, 1, 4);
        Halls.scoring(given, 0, 0, 30);
        Halls.scoring(given, 2, 4, 31);
        CHECKS.due("25: 30 three times against 40, 30, 30", given.points(0), 2);
        CHECKS.due("25: with handicaps", given.points(1), 6);
        Halls.scoring(given, 1, 0, 0);
        CHECKS.due("25: the handicap alone", given.points(0), 8);
    }

    private static void pointsByGamesOfTheWeek() {
        PinHall hall = withPlainTeams(2);
        hall.match(1, 0, 4);
        int open = hall.begin(0, 4);
        Halls.scoring(hall, 0, 5, 90);
        Halls.scoring(hall, 0, 4, 20);
        Halls.scoring(hall, 0, 4, 40);
        Halls.scoring(hall, 2, 4, 30);
        Halls.scoring(hall, 2, 4, 30);
        Halls.scoring(hall, 2, 4, 60);
        // The average of the first one is 50, so its blind in round 2 is 40.
        CHECKS.due("25: 20, 40, 40 against 30, 30, 60", hall.points(0), 2);
        for (int i = 0; i < 20; i++) {
            hall.roll(open, i % 2 == 0 ? 9 : 0, false);
        }
        // Begun first, it is game 0 of the week: 90, 20, 40.
        CHECKS.due("25: 90, 20, 40 against 30, 30, 60", hall.points(0), 4);
        CHECKS.due("25: the other one's", hall.points(1), 4);
        Halls.scoring(hall, 0, 4, 90);
        CHECKS.due("25: a fourth game counts in no round", hall.points(0), 4);
    }

    private static void pointsAsThingsAreNow() {
        PinHall hall = withPlainTeams(2);
        hall.match(0, 1, 4);
        int first = Halls.scoring(hall, 0, 4, 50);
        Halls.scoring(hall, 3, 4, 50);
        CHECKS.due("25: shared", hall.points(0), 4);
        hall.fix(first, 0, 8, false);
        CHECKS.due("25: lost by a correction", hall.points(0), 0);
        hall.fix(first, 0, 9, false);
        CHECKS.due("25: shared again", hall.points(0), 4);
        hall.fix(first, 18, 5, false);
        CHECKS.due("25: won by a correction", hall.points(0), 8);
        Halls.perfect(hall, 3, 0);
        CHECKS.due("25: a game of another week makes blinds", hall.points(1), 6);
        hall.setHandicap(100, 300, 300);
        // 300 against 175, then blinds of 290 on both sides.
        CHECKS.due("25: handicaps as they are now", hall.points(0), 6);
    }

    private static void pointsOfThreeRoundsAlone() {
        PinHall hall = withPlainTeams(2);
        hall.match(0, 1, 0);
        hall.match(0, 1, 1);
        Halls.scoring(hall, 0, 0, 90);
        Halls.scoring(hall, 2, 0, 90);
        Halls.scoring(hall, 2, 1, 90);
        CHECKS.due("25: two matches", hall.points(0), 6);
        CHECKS.due("25: the second one lost in a round and the sum", hall.points(1), 10);
    }

    private static void ranked() {
        PinHall hall = withPlainTeams(4);
        CHECKS.refused("26: rank -1", IndexOutOfBoundsException.class, () -> hall.ranked(-1));
        CHECKS.refused("26: rank 4", IndexOutOfBoundsException.class, () -> hall.ranked(4));
        for (int i = 0; i < 4; i++) {
            CHECKS.due("26: by numbers " + i, hall.ranked(i), i);
        }
        hall.match(0, 3, 2);
        hall.match(1, 2, 2);
        Halls.scoring(hall, 6, 2, 50);
        CHECKS.due("26: 8 points", hall.ranked(0), 3);
        CHECKS.due("26: 4 points, the lower number", hall.ranked(1), 1);
        CHECKS.due("26: 4 points, the higher number", hall.ranked(2), 2);
        CHECKS.due("26: none", hall.ranked(3), 0);
        PinHall none = new PinHall();
        CHECKS.refused("26: no team", IndexOutOfBoundsException.class, () -> none.ranked(0));
    }

    private static void rankedBySums() {
        PinHall hall = withPlainTeams(4);
        hall.match(0, 1, 2);
        hall.match(2, 3, 2);
        Halls.scoring(hall, 0, 2, 40);
        Halls.scoring(hall, 2, 2, 40);
        Halls.scoring(hall, 4, 2, 41);
        Halls.scoring(hall, 6, 2, 41);
        int[] due = {2, 3, 0, 1};
        for (int i = 0; i < 4; i++) {
            CHECKS.due("26: greater sums first " + i, hall.ranked(i), due[i]);
        }
        PinHall more = withPlainTeams(3);
        more.match(0, 1, 0);
        more.match(1, 2, 1);
        Halls.scoring(more, 0, 0, 10);
        Halls.scoring(more, 4, 1, 9);
        CHECKS.due("26: 6 points", more.points(0), 6);
        CHECKS.due("26: 6 points too", more.points(2), 6);
        CHECKS.due("26: 10 ahead of 9", more.ranked(0), 0);
        CHECKS.due("26: then 9", more.ranked(1), 2);
        CHECKS.due("26: and who lost", more.ranked(2), 1);
        PinHall sums = withPlainTeams(4);
        sums.match(0, 1, 0);
        sums.match(2, 3, 0);
        sums.match(2, 3, 1);
        sums.match(0, 1, 1);
        Halls.scoring(sums, 2, 0, 30);
        Halls.scoring(sums, 0, 0, 30);
        Halls.scoring(sums, 4, 0, 20);
        Halls.scoring(sums, 6, 0, 20);
        Halls.scoring(sums, 4, 1, 46);
        Halls.scoring(sums, 6, 1, 46);
        CHECKS.due("26: the sums of all matches", sums.ranked(0), 2);
    }

    private static void champion() {
        PinHall hall = Halls.withPlayers(4);
        hall.setHandicap(0, 0, 0);
        CHECKS.refused("27: week -1", IllegalArgumentException.class, () -> hall.champion(-1));
        CHECKS.refused("27: week 20", IllegalArgumentException.class, () -> hall.champion(20));
        CHECKS.refused("27: nobody", NoSuchElementException.class, () -> hall.champion(0));
        hall.begin(2, 0);
        CHECKS.refused("27: nobody with a game that is done", NoSuchElementException.class, () -> hall.champion(0));
        int only = Halls.scoring(hall, 3, 0, 0);
        CHECKS.due("27: alone", hall.champion(0), 3);
        Halls.scoring(hall, 1, 0, 0);
        CHECKS.due("27: of the same, the lower one", hall.champion(0), 1);
        hall.fix(only, 0, 1, false);
        CHECKS.due("27: the greater one", hall.champion(0), 3);
        CHECKS.refused("27: nobody in another week", NoSuchElementException.class, () -> hall.champion(1));
        Halls.scoring(hall, 0, 19, 5);
        CHECKS.due("27: last week", hall.champion(19), 0);
        PinHall given = Halls.withPlayers(2);
        Halls.scoring(given, 0, 0, 20);
        Halls.scoring(given, 1, 0, 10);
        CHECKS.due("27: both with 60", given.champion(0), 0);
        given.setHandicap(100, 300, 300);
        Halls.perfect(given, 0, 1);
        Halls.scoring(given, 1, 1, 10);
        // 20 and 140 against 10 and 290.
        CHECKS.due("27: with the handicap", given.champion(0), 1);
    }

    private static void championByRounds() {
        PinHall hall = Halls.withPlayers(5);
        hall.setHandicap(0, 0, 0);
        Halls.scoring(hall, 0, 0, 10);
        Halls.scoring(hall, 1, 0, 20);
        Halls.scoring(hall, 4, 0, 5);
        CHECKS.due("27: 1 and 4 have no second game", hall.champion(0), 1);
        Halls.scoring(hall, 4, 0, 1);
        CHECKS.due("27: 4 has one, though alone at first", hall.champion(0), 4);
        Halls.scoring(hall, 0, 0, 90);
        CHECKS.due("27: 0 is out by then", hall.champion(0), 4);
        Halls.scoring(hall, 1, 0, 2);
        CHECKS.due("27: 1 has a greater one", hall.champion(0), 1);
        PinHall none = Halls.withPlayers(3);
        Halls.scoring(none, 0, 0, 0);
        Halls.scoring(none, 1, 0, 0);
        Halls.scoring(none, 2, 0, 0);
        none.setHandicap(100, 300, 300);
        CHECKS.due("27: who has none has 0, with the handicap too", none.champion(0), 0);
        Halls.scoring(none, 2, 1, 60);
        none.setHandicap(100, 20, 300);
        CHECKS.due("27: the lower one still", none.champion(0), 0);
        Halls.scoring(none, 2, 0, 0);
        none.setHandicap(100, 300, 300);
        CHECKS.due("27: 0 and the handicap is more than none", none.champion(0), 2);
    }

    private static void championOfEight() {
        PinHall hall = Halls.withPlayers(8);
        hall.setHandicap(0, 0, 0);
        int[][] scores = {{1, 9, 9}, {2, 0, 0}, {3, 2, 9}, {2, 9, 9}, {5, 3, 1}, {5, 9, 9}, {1, 9, 9}, {2, 3, 9}};
        for (int[] round : new int[][] {{0}, {1}, {2}}) {
            for (int i = 0; i < 8; i++) {
                Halls.scoring(hall, i, 7, scores[i][round[0]]);
            }
        }
        // Round 0 leaves 1, 2, 4 and 7; round 1 leaves 2 and, of the same, 4; round 2 has 9 against 1.
        CHECKS.due("27: three rounds", hall.champion(7), 2);
        PinHall seven = Halls.withPlayers(7);
        seven.setHandicap(0, 0, 0);
        for (int i = 0; i < 7; i++) {
            Halls.scoring(seven, i, 7, i == 6 ? 0 : 1);
        }
        Halls.scoring(seven, 6, 7, 1);
        Halls.scoring(seven, 6, 7, 1);
        // Round 0 leaves 0, 2, 4 and 6, round 1 leaves 0 and 6, who alone have a game of it or are lower.
        CHECKS.due("27: the last one of seven", seven.champion(7), 6);
        Halls.scoring(seven, 4, 7, 2);
        CHECKS.due("27: meets 4 in round 1", seven.champion(7), 0);
    }
}
