/** The boundaries that the document names for handicaps, the league and the knockout, promises 20 to 27. */
public final class LeagueEdgesTest {
    private static final Checks CHECKS = new Checks();
    private static final Runs RUNS = new Runs(CHECKS);

    public static void main(String[] args) {
        numbersOfSetHandicap();
        handicapAtFirst();
        handicapRounded();
        average();
        noSuchPlayer();
        teams();
        teamOfTwo();
        matches();
        oneMatchAWeek();
        twentyMatches();
        noSuchTeam();
        gamesOfRounds();
        blinds();
        pointsOfRounds();
        handicapsInRounds();
        asThingsAreNow();
        ranks();
        ranksOfTheSame();
        weeksOfChampions();
        whoIsInIt();
        ofTwo();
        lastOneAlone();
        rounds();
        whoHasNone();
        CHECKS.end();
    }

    private static void numbersOfSetHandicap() {
        String sentence = "20: IllegalArgumentException if a number is out of range: ";
        RUNS.run(sentence + "the percent, 0 to 100",
                "players 1", "scored 0 0 60", "handicap 0 = 60", "setHandicap -1 300 300 ! IllegalArgument",
                "setHandicap 0 300 300 = 80", "handicap 0 = 0", "setHandicap 101 300 300 ! IllegalArgument",
                "setHandicap 100 300 300 = 0", "handicap 0 = 240", "setHandicap 1 300 300 = 100", "handicap 0 = 2",
                "setHandicap 2147483647 0 0 ! IllegalArgument", "setHandicap -2147483648 0 0 ! IllegalArgument");
        RUNS.run(sentence + "the base, 0 to 300",
                "players 1", "scored 0 0 60", "setHandicap 50 -1 300 ! IllegalArgument", "setHandicap 50 0 300 = 80",
                "handicap 0 = 0", "setHandicap 51 301 300 ! IllegalArgument", "setHandicap 51 300 300 = 50",
                "handicap 0 = 122", "setHandicap 52 2147483647 0 ! IllegalArgument",
                "setHandicap 52 -2147483648 0 ! IllegalArgument");
        RUNS.run(sentence + "the cap, 0 to 300",
                "players 1", "scored 0 0 0", "setHandicap 100 300 -1 ! IllegalArgument",
                "setHandicap 100 300 0 = 80", "handicap 0 = 0", "setHandicap 99 300 301 ! IllegalArgument",
                "setHandicap 100 300 300 = 100", "handicap 0 = 300", "setHandicap 99 300 299 = 100", "handicap 0 = 297",
                "setHandicap 98 0 2147483647 ! IllegalArgument", "setHandicap 98 0 -2147483648 ! IllegalArgument");
    }

    private static void handicapAtFirst() {
        RUNS.run("22: At first the percent is 80, the base 200, the cap 60: an average of 150",
                "players 1", "begin 0 0", "bowl 0: 21x5", "average 0 = 150", "handicap 0 = 40",
                "setHandicap 79 200 60 = 80", "handicap 0 = 39");
        RUNS.run("22: At first the percent is 80, the base 200, the cap 60: an average of 200",
                "players 1", "begin 0 0", "bowl 0: 10 5 5 10 5 5 10 5 5 10 5 5 10 5 5 10", "average 0 = 200",
                "handicap 0 = 0", "setHandicap 80 201 60 = 80", "handicap 0 = 0", "setHandicap 80 202 60 = 80",
                "handicap 0 = 1");
        RUNS.run("22: At first the percent is 80, the base 200, the cap 60: averages of 127 down to 123",
                "players 1", "begin 0 0", "bowl 0: 16x5 0 3 9 0", "average 0 = 127", "handicap 0 = 58",
                "fix 0 17 2 false = 10", "average 0 = 126", "handicap 0 = 59", "fix 0 17 1 false = 10",
                "average 0 = 125", "handicap 0 = 60", "fix 0 17 0 false = 10", "average 0 = 124", "handicap 0 = 60",
                "fix 0 18 8 false = 10", "average 0 = 123", "handicap 0 = 60");
        RUNS.run("22: 0 without an average",
                "players 1", "handicap 0 = 0", "setHandicap 100 300 300 = 80", "handicap 0 = 0", "begin 0 0",
                "bowl 0: 19x0", "handicap 0 = 0", "bowl 0: 0", "handicap 0 = 300");
    }

    private static void handicapRounded() {
        RUNS.run("22: The handicap is the base less the average, times the percent, divided by 100, rounded down",
                "players 1", "scored 0 0 60", "setHandicap 99 61 300", "handicap 0 = 0", "setHandicap 100 61 300",
                "handicap 0 = 1", "setHandicap 50 63 300", "handicap 0 = 1", "setHandicap 50 64 300", "handicap 0 = 2",
                "setHandicap 33 70 300", "handicap 0 = 3", "setHandicap 39 70 300", "handicap 0 = 3");
        RUNS.run("22: 0 at least",
                "players 1", "scored 0 0 60", "setHandicap 100 60 300", "handicap 0 = 0", "setHandicap 100 59 300",
                "handicap 0 = 0", "setHandicap 50 59 300", "handicap 0 = 0", "setHandicap 100 0 300", "handicap 0 = 0");
        RUNS.run("22: and at most the cap",
                "players 1", "scored 0 0 60", "setHandicap 100 100 39", "handicap 0 = 39", "setHandicap 100 100 40",
                "handicap 0 = 40", "setHandicap 100 100 41", "handicap 0 = 40", "setHandicap 100 100 0",
                "handicap 0 = 0");
    }

    private static void average() {
        RUNS.run("21: NoSuchElementException if no game is done",
                "players 2", "average 0 ! NoSuchElement", "begin 0 0", "average 0 ! NoSuchElement", "bowl 0: 19x1",
                "average 0 ! NoSuchElement", "scored 1 0 9", "average 0 ! NoSuchElement", "bowl 0: 1", "average 0 = 20",
                "average 1 = 9");
        RUNS.run("21: the sum of the scores of the games that are done, divided by their number, rounded down",
                "players 1", "scored 0 0 1", "average 0 = 1", "scored 0 0 2", "average 0 = 1", "scored 0 19 2",
                "average 0 = 1", "scored 0 5 3", "average 0 = 2", "begin 0 5", "bowl 4: 3x10", "average 0 = 2",
                "fix 3 0 2 false = 10", "average 0 = 1", "fix 0 0 0 false = 10", "average 0 = 1",
                "fix 1 0 0 false = 10",
                "average 0 = 1", "fix 2 0 1 false = 10", "average 0 = 0");
        RUNS.run("21: 0 at least, 300 at most",
                "players 2", "scored 0 0 0", "average 0 = 0", "perfect 1 0", "average 1 = 300", "perfect 1 0",
                "average 1 = 300");
    }

    private static void noSuchPlayer() {
        for (String call : new String[] {"average #", "handicap #", "purse #"}) {
            RUNS.run("IndexOutOfBoundsException if there is no such player: " + call,
                    call.replace("#", "0") + " ! IndexOutOfBounds", "players 2", "scored 0 0 5", "scored 1 0 5",
                    call.replace("#", "-1") + " ! IndexOutOfBounds", call.replace("#", "0"), call.replace("#", "1"),
                    call.replace("#", "2") + " ! IndexOutOfBounds",
                    call.replace("#", "2147483647") + " ! IndexOutOfBounds",
                    call.replace("#", "-2147483648") + " ! IndexOutOfBounds");
        }
    }

    private static void teams() {
        RUNS.run("23: At most 4 teams are numbered from 0: all 8 players are in one then",
                "players 8", "points 0 ! IndexOutOfBounds", "team 0 1 = 0", "points 0 = 0",
                "points 1 ! IndexOutOfBounds",
                "team 3 2 = 1", "team 4 7 = 2", "points 3 ! IndexOutOfBounds", "team 6 5 = 3", "points 3 = 0",
                "team 0 2 ! UnsupportedOperation", "team 7 5 ! UnsupportedOperation", "points 4 ! IndexOutOfBounds");
        RUNS.run("23: IndexOutOfBoundsException if there is no such player, for either",
                "team 0 1 ! IndexOutOfBounds", "players 1", "team 0 1 ! IndexOutOfBounds",
                "team 1 0 ! IndexOutOfBounds",
                "players 1", "team -1 1 ! IndexOutOfBounds", "team 1 -1 ! IndexOutOfBounds",
                "team 0 2 ! IndexOutOfBounds", "team 2 0 ! IndexOutOfBounds", "team 0 2147483647 ! IndexOutOfBounds",
                "team -2147483648 0 ! IndexOutOfBounds", "team 1 0 = 0");
    }

    private static void teamOfTwo() {
        RUNS.run("23: IllegalArgumentException if both are the same",
                "players 3", "team 0 0 ! IllegalArgument", "team 2 2 ! IllegalArgument", "team 2 0 = 0");
        RUNS.run("23: each of two players, who are in no other one: UnsupportedOperationException",
                "players 5", "team 1 2 = 0", "team 1 0 ! UnsupportedOperation", "team 0 1 ! UnsupportedOperation",
                "team 2 0 ! UnsupportedOperation", "team 0 2 ! UnsupportedOperation", "team 1 2 ! UnsupportedOperation",
                "team 2 1 ! UnsupportedOperation", "team 0 3 = 1", "team 4 3 ! UnsupportedOperation",
                "team 0 4 ! UnsupportedOperation", "players 1", "team 5 4 = 2");
    }

    private static void matches() {
        RUNS.run("24: the week, 0 to 19",
                "players 4", "team 0 1", "team 2 3", "match 0 1 -1 ! IllegalArgument", "match 0 1 0 = 1",
                "match 0 1 20 ! IllegalArgument", "match 1 0 19 = 2", "match 0 1 2147483647 ! IllegalArgument",
                "match 0 1 -2147483648 ! IllegalArgument");
        RUNS.run("24: IndexOutOfBoundsException if there is no such team, for either",
                "match 0 1 0 ! IndexOutOfBounds", "players 4", "match 0 1 0 ! IndexOutOfBounds", "team 0 1",
                "match 0 1 0 ! IndexOutOfBounds", "match 1 0 0 ! IndexOutOfBounds", "team 2 3",
                "match 0 2 0 ! IndexOutOfBounds", "match 2 0 0 ! IndexOutOfBounds", "match -1 0 0 ! IndexOutOfBounds",
                "match 0 -1 0 ! IndexOutOfBounds", "match 0 2147483647 0 ! IndexOutOfBounds",
                "match -2147483648 0 0 ! IndexOutOfBounds", "match 0 1 0 = 1");
        RUNS.run("24: IllegalArgumentException if both are the same",
                "players 4", "team 0 1", "team 2 3", "match 0 0 5 ! IllegalArgument", "match 1 1 5 ! IllegalArgument",
                "match 1 0 5 = 1", "points 0 = 4", "points 1 = 4");
    }

    private static void oneMatchAWeek() {
        RUNS.run("24: in which neither has another one: UnsupportedOperationException",
                "players 8", "team 0 1", "team 2 3", "team 4 5", "team 6 7", "match 0 1 5 = 1",
                "match 0 1 5 ! UnsupportedOperation", "match 1 0 5 ! UnsupportedOperation",
                "match 0 2 5 ! UnsupportedOperation", "match 2 0 5 ! UnsupportedOperation",
                "match 1 3 5 ! UnsupportedOperation", "match 3 1 5 ! UnsupportedOperation", "match 0 2 4 = 2",
                "match 0 2 6 = 3", "match 3 1 4 = 4", "match 3 2 5 = 5", "match 2 3 5 ! UnsupportedOperation",
                "points 0 = 12");
    }

    private static void twentyMatches() {
        String[] rows = new String[31];
        rows[0] = "players 8";
        for (int i = 0; i < 4; i++) {
            rows[i + 1] = "team " + 2 * i + " " + (2 * i + 1) + " = " + i;
        }
        for (int i = 0; i < 19; i++) {
            rows[i + 5] = "match " + (i % 2 == 0 ? "0 1 " : "2 3 ") + i / 2 + " = " + (i + 1);
        }
        rows[24] = "points 0 = 40";
        rows[25] = "match 3 1 19 = 20";
        rows[26] = "match 0 2 19 ! IllegalState";
        rows[27] = "match 2 0 10 ! IllegalState";
        rows[28] = "points 3 = 40";
        rows[29] = "points 2 = 36";
        rows[30] = "isSound = true";
        RUNS.run("24: At most 20 matches are told: IllegalStateException", rows);
    }

    private static void noSuchTeam() {
        for (String call : new String[] {"points #", "ranked #"}) {
            RUNS.run("25, 26: IndexOutOfBoundsException if there is no such team or rank: " + call,
                    call.replace("#", "0") + " ! IndexOutOfBounds", "players 8",
                    call.replace("#", "0") + " ! IndexOutOfBounds", "team 0 1", call.replace("#", "0") + " = 0",
                    call.replace("#", "-1") + " ! IndexOutOfBounds", call.replace("#", "1") + " ! IndexOutOfBounds",
                    "team 2 3", "team 4 5", call.replace("#", "2"), call.replace("#", "3") + " ! IndexOutOfBounds",
                    "team 6 7", call.replace("#", "3"), call.replace("#", "4") + " ! IndexOutOfBounds",
                    call.replace("#", "2147483647") + " ! IndexOutOfBounds",
                    call.replace("#", "-2147483648") + " ! IndexOutOfBounds");
        }
    }

    /** Two teams of two players without handicaps, who have a match in week 5, and further rows. */
    private static void plain(String sentence, String... rows) {
        String[] all = new String[rows.length + 5];
        System.arraycopy(new String[] {"players 4", "setHandicap 0 0 0", "team 0 1", "team 2 3", "match 0 1 5"}, 0,
                all, 0, 5);
        System.arraycopy(rows, 0, all, 5, rows.length);
        RUNS.run(sentence, all);
    }

    private static void gamesOfRounds() {
        plain("25: For each of 3 rounds, the game with this number, from 0: none, one, two, three, four games",
                "points 0 = 4", "scored 2 5 20", "points 0 = 0", "scored 0 5 30", "points 0 = 8", "scored 0 5 0",
                "points 0 = 2", "scored 2 5 1", "points 0 = 6", "scored 0 5 3", "points 0 = 6", "scored 2 5 4",
                "points 0 = 4", "scored 2 5 90", "points 0 = 4", "points 1 = 4");
        plain("25: of those that are done in the week: one of another week is none",
                "scored 0 4 9", "scored 2 6 9", "points 0 = 4", "scored 0 5 1", "points 0 = 6", "scored 2 5 1",
                "points 0 = 4");
        plain("25: of those that are done in the week: one that is not done is none",
                "begin 0 5", "bowl 0: 19x4", "points 0 = 4", "scored 2 5 60", "points 0 = 0", "bowl 0: 4",
                "points 0 = 8", "points 1 = 0");
        plain("25: each team has the games of both its players",
                "scored 0 5 10", "scored 1 5 9", "scored 2 5 10", "points 0 = 6", "scored 3 5 9", "points 0 = 4",
                "fix 3 1 1 false = 10", "points 0 = 2", "points 1 = 6");
    }

    private static void blinds() {
        plain("25: as a blind, the average less 10: of 10 nothing",
                "scored 0 4 10", "points 0 = 4", "points 1 = 4");
        plain("25: as a blind, the average less 10: of 11 one", "scored 0 4 11", "points 0 = 8", "points 1 = 0");
        plain("25: 0 at least: of 9 nothing", "scored 0 4 9", "points 0 = 4", "points 1 = 4");
        plain("25: 0 at least: of 0 nothing", "scored 0 4 0", "points 0 = 4", "points 1 = 4");
        plain("25: a blind in rounds 1 and 2 alone",
                "scored 0 5 30", "scored 2 4 30", "points 0 = 6", "scored 0 5 30", "points 0 = 7", "scored 0 5 30",
                "points 0 = 8");
        plain("25: and the handicap",
                "setHandicap 100 1 300", "scored 0 4 0", "points 0 = 8", "setHandicap 100 0 300", "points 0 = 4");
        plain("25: nothing without an average, the handicap neither",
                "setHandicap 100 300 300", "points 0 = 4", "begin 0 5", "bowl 0: 19x4", "points 0 = 4");
    }

    private static void pointsOfRounds() {
        plain("25: The greater sum of a round gets 2 points: greater by 1 in one round and in all three",
                "scored 0 5 21", "scored 0 5 20", "scored 0 5 20", "scored 2 5 20", "scored 2 5 20", "scored 2 5 20",
                "points 0 = 6", "points 1 = 2", "fix 0 0 8 false = 10", "points 0 = 4", "points 1 = 4",
                "fix 0 0 7 false = 10", "points 0 = 2", "points 1 = 6");
        plain("25: the same ones 1 each; and likewise the greater sum of all three",
                "scored 0 5 10", "scored 0 5 10", "scored 0 5 10", "scored 2 5 9", "scored 2 5 9", "scored 2 5 12",
                "points 0 = 5", "points 1 = 3", "fix 5 0 8 false = 10", "points 0 = 6", "points 1 = 2",
                "fix 5 2 4 false = 10", "points 0 = 5", "points 1 = 3", "fix 5 2 5 false = 10", "points 0 = 4",
                "points 1 = 4");
        plain("25: by all its matches",
                "points 0 = 4", "match 1 0 6 = 2", "points 0 = 8", "points 1 = 8", "scored 2 6 5", "points 0 = 6",
                "points 1 = 10", "scored 0 5 5", "points 0 = 8", "points 1 = 8");
        RUNS.run("25: no match, no points",
                "players 4", "team 0 1", "scored 0 0 90", "points 0 = 0", "team 2 3", "points 1 = 0");
    }

    private static void handicapsInRounds() {
        plain("25: a player has the score and the handicap",
                "scored 0 5 20", "scored 2 5 40", "points 0 = 0", "setHandicap 100 50 300", "points 0 = 4",
                "setHandicap 100 50 29", "points 0 = 0", "setHandicap 100 50 30", "points 0 = 4",
                "setHandicap 100 39 300", "points 0 = 0", "setHandicap 0 300 300", "points 0 = 0");
        plain("25: each player of a team has a handicap",
                "setHandicap 100 14 300", "scored 0 5 0", "scored 1 5 0", "scored 2 5 15", "scored 3 5 4",
                "points 0 = 6", "setHandicap 100 15 300", "points 0 = 7", "points 1 = 1");
    }

    private static void asThingsAreNow() {
        plain("25: as things are now: by a correction",
                "scored 0 5 20", "scored 2 5 20", "points 0 = 4", "fix 0 0 8 false = 10", "points 0 = 0",
                "fix 0 0 9 false = 10", "points 0 = 4", "fix 0 0 9 true = 10", "points 0 = 0", "fix 0 19 1 false = 10",
                "points 0 = 0");
        plain("25: as things are now: a game that is done no more",
                "perfect 0 5", "points 0 = 8", "fix 0 0 0 false = 10", "isDone 0 = false", "points 0 = 4",
                "bowl 0: 0", "isDone 0 = true", "points 0 = 8");
    }

    private static void ranks() {
        RUNS.run("26: Teams are ranked by points",
                "players 8", "setHandicap 0 0 0", "team 0 1", "team 2 3", "team 4 5", "team 6 7", "match 0 3 5",
                "match 1 2 5", "scored 6 5 20", "scored 4 5 2", "scored 2 5 1", "points 3 = 8", "points 2 = 6",
                "ranked 0 = 3", "ranked 1 = 2", "ranked 2 = 1", "ranked 3 = 0", "ranked 4 ! IndexOutOfBounds",
                "ranked -1 ! IndexOutOfBounds");
        RUNS.run("26: the rank, from 0: one team", "ranked 0 ! IndexOutOfBounds", "players 2",
                "ranked 0 ! IndexOutOfBounds", "team 0 1", "ranked 0 = 0", "ranked 1 ! IndexOutOfBounds");
        RUNS.run("26: points ahead of sums",
                "players 8", "setHandicap 0 0 0", "team 0 1", "team 2 3", "team 4 5", "team 6 7", "match 0 1 5",
                "match 2 3 5", "scored 0 5 89", "scored 2 5 90", "scored 6 5 1", "points 1 = 8", "points 3 = 6",
                "ranked 0 = 1", "ranked 1 = 3", "ranked 2 = 2", "ranked 3 = 0");
    }

    private static void ranksOfTheSame() {
        RUNS.run("26: then by the sums of all rounds of their matches, the greater ones first",
                "players 8", "setHandicap 0 0 0", "team 0 1", "team 2 3", "team 4 5", "team 6 7", "match 0 1 5",
                "match 2 3 5", "scored 0 5 20", "scored 2 5 20", "scored 4 5 20", "scored 6 5 20", "ranked 0 = 0",
                "ranked 1 = 1", "ranked 2 = 2", "ranked 3 = 3", "fix 2 0 8 false = 10", "fix 3 0 8 false = 10",
                "ranked 0 = 0", "ranked 3 = 3", "fix 2 1 1 false = 10", "fix 3 1 1 false = 10", "fix 2 18 1 false = 10",
                "fix 3 18 1 false = 10", "points 0 = 4", "points 2 = 4", "ranked 0 = 2", "ranked 1 = 3", "ranked 2 = 0",
                "ranked 3 = 1");
        RUNS.run("26: of all rounds: of the second and third one too",
                "players 4", "setHandicap 0 0 0", "team 0 1", "team 2 3", "match 0 1 5", "scored 0 5 10",
                "scored 0 5 10",
                "scored 0 5 10", "scored 2 5 9", "scored 2 5 9", "scored 2 5 13", "points 0 = 4", "points 1 = 4",
                "ranked 0 = 1", "ranked 1 = 0", "fix 5 2 3 false = 10", "points 0 = 5", "ranked 0 = 0",
                "fix 5 2 0 false = 10", "fix 4 2 4 false = 10", "points 0 = 4", "points 1 = 4", "ranked 0 = 1");
        RUNS.run("26: the sums as things are now: of the same points",
                "players 8", "setHandicap 0 0 0", "team 0 1", "team 2 3", "team 4 5", "team 6 7", "match 0 1 5",
                "match 2 3 5", "scored 0 5 60", "scored 4 5 40", "points 0 = 8", "points 2 = 8", "ranked 0 = 0",
                "ranked 1 = 2", "ranked 0 = 0", "fix 0 0 0 false = 10", "fix 0 2 0 false = 10", "fix 0 4 0 false = 10",
                "points 0 = 8", "points 2 = 8", "ranked 0 = 2", "ranked 1 = 0");
        RUNS.run("26: of their matches: games of weeks without one count nothing, but for blinds",
                "players 6", "setHandicap 0 0 0", "team 0 1", "team 2 3", "team 4 5", "match 0 1 5", "scored 4 5 90",
                "ranked 0 = 0", "ranked 1 = 1", "ranked 2 = 2", "points 2 = 0");
        RUNS.run("26: then by lower numbers",
                "players 8", "team 6 7", "team 4 5", "team 2 3", "ranked 0 = 0", "ranked 1 = 1", "ranked 2 = 2",
                "match 2 1 5", "ranked 0 = 1", "ranked 1 = 2", "ranked 2 = 0", "team 0 1", "ranked 2 = 0",
                "ranked 3 = 3");
    }

    private static void weeksOfChampions() {
        RUNS.run("27: the week, 0 to 19: IllegalArgumentException if the week is out of range",
                "players 2", "scored 0 0 1", "scored 1 19 1", "champion -1 ! IllegalArgument", "champion 0 = 0",
                "champion 19 = 1", "champion 20 ! IllegalArgument", "champion 2147483647 ! IllegalArgument",
                "champion -2147483648 ! IllegalArgument");
        RUNS.run("27: NoSuchElementException if nobody is in it",
                "champion 0 ! NoSuchElement", "players 1", "champion 0 ! NoSuchElement", "begin 0 0",
                "champion 0 ! NoSuchElement", "bowl 0: 19x0", "champion 0 ! NoSuchElement", "bowl 0: 0",
                "champion 0 = 0", "champion 1 ! NoSuchElement", "fix 0 17 10 false = 10", "champion 0 = 0",
                "fix 0 18 10 false = 10", "champion 0 ! NoSuchElement");
    }

    private static void whoIsInIt() {
        RUNS.run("27: those players are in it who have a game that is done in it",
                "players 3", "setHandicap 0 0 0", "begin 0 5", "bowl 0: 19x4", "scored 1 5 0", "scored 2 4 90",
                "champion 5 = 1", "champion 4 = 2", "bowl 0: 4", "champion 5 = 0", "scored 2 5 1", "champion 5 = 0");
    }

    private static void ofTwo() {
        RUNS.run("27: the greater sum of score and handicap: greater by 1, the same, less by 1",
                "players 2", "setHandicap 0 0 0", "scored 0 5 10", "scored 1 5 11", "champion 5 = 1",
                "fix 1 2 1 false = 10", "champion 5 = 0", "fix 1 2 0 false = 10", "champion 5 = 0",
                "fix 1 2 3 false = 10", "champion 5 = 1");
        RUNS.run("27: the greater sum of score and handicap: the handicap",
                "players 2", "scored 0 5 20", "scored 1 5 10", "champion 5 = 0", "perfect 0 6",
                "setHandicap 100 200 300", "average 0 = 160", "champion 5 = 1", "setHandicap 100 19 300",
                "handicap 1 = 9", "champion 5 = 0", "setHandicap 100 20 300", "champion 5 = 0",
                "setHandicap 100 21 300", "champion 5 = 1", "setHandicap 100 300 10", "champion 5 = 0",
                "setHandicap 0 300 300", "champion 5 = 0");
    }

    private static void lastOneAlone() {
        RUNS.run("27: in the order of their numbers, two by two, the last one alone if there is one, who goes on",
                "players 6", "setHandicap 0 0 0", "scored 5 5 1", "scored 5 5 9", "champion 5 = 5", "scored 3 5 2",
                "champion 5 = 3", "scored 0 5 1", "champion 5 = 5", "scored 4 5 0", "champion 5 = 5",
                "fix 3 0 0 false = 10", "scored 1 5 0", "champion 5 = 0", "scored 5 5 1", "champion 5 = 5");
        RUNS.run("27: of three, the third one meets who has won, in round 1",
                "players 3", "setHandicap 0 0 0", "scored 0 5 5", "scored 1 5 5", "scored 2 5 90", "champion 5 = 0",
                "scored 2 5 0", "champion 5 = 0", "fix 3 0 1 false = 10", "champion 5 = 2", "scored 0 5 1",
                "champion 5 = 0");
        RUNS.run("27: the last one alone goes on, whatever the others have",
                "players 3", "setHandicap 0 0 0", "scored 0 5 50", "scored 1 5 40", "scored 2 5 0", "champion 5 = 0",
                "scored 2 5 5", "champion 5 = 2");
        RUNS.run("27: the last one alone goes on in round 1 too, whatever those have who are out",
                "players 5", "setHandicap 0 0 0", "scored 0 5 9", "scored 0 5 9", "scored 1 5 8", "scored 2 5 7",
                "scored 3 5 8", "scored 3 5 7", "scored 4 5 0", "champion 5 = 0", "scored 4 5 0", "scored 4 5 1",
                "champion 5 = 4", "scored 0 5 1", "champion 5 = 0");
        RUNS.run("27: of five, the last one is alone twice",
                "players 5", "setHandicap 0 0 0", "scored 0 5 0", "scored 1 5 0", "scored 2 5 0", "scored 3 5 0",
                "scored 4 5 0", "scored 4 5 0", "champion 5 = 0", "scored 4 5 1", "champion 5 = 4");
    }

    private static void rounds() {
        RUNS.run("27: the game, among those that are done in the week, with the number of the round, from 0: 8 players",
                "players 8", "setHandicap 0 0 0", "scored 0 5 0", "scored 1 5 1", "scored 2 5 3", "scored 3 5 2",
                "scored 4 5 0", "scored 5 5 1", "scored 6 5 3", "scored 7 5 2", "champion 5 = 1", "scored 2 5 1",
                "champion 5 = 2", "scored 6 5 2", "scored 5 5 1", "champion 5 = 2", "scored 6 5 1", "champion 5 = 6",
                "scored 2 5 1", "champion 5 = 2", "scored 1 5 1", "champion 5 = 6", "scored 7 5 90", "champion 5 = 6");
        RUNS.run("27: a game of another week, or one that is not done, has no number",
                "players 3", "setHandicap 0 0 0", "scored 2 4 90", "begin 2 5", "scored 2 5 1", "scored 2 5 2",
                "scored 0 5 1", "scored 0 5 2", "scored 1 5 0", "champion 5 = 0", "fix 3 2 1 false = 10",
                "champion 5 = 2", "bowl 1: 19x0", "champion 5 = 2", "bowl 1: 0", "champion 5 = 0");
    }

    private static void whoHasNone() {
        RUNS.run("27: who has none has 0, without the handicap",
                "players 3", "setHandicap 100 300 300", "scored 0 5 0", "scored 1 5 0", "scored 2 5 90",
                "scored 2 5 90",
                "champion 5 = 2", "setHandicap 0 0 0", "fix 3 0 0 false = 10", "champion 5 = 2");
        RUNS.run("27: of the same, the lower one",
                "players 3", "setHandicap 100 300 300", "scored 0 5 0", "scored 1 5 0", "champion 5 = 0",
                "scored 2 5 0", "champion 5 = 0", "setHandicap 0 0 0", "scored 2 5 0", "champion 5 = 0");
    }
}
