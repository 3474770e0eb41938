/**
 * If several exceptions apply, the exception that is listed first is thrown: for each method every two of
 * its exceptions that can apply at once, as far as one call can bring them together.
 */
public final class ExceptionOrderTest {
    private static final Checks CHECKS = new Checks();
    private static final Runs RUNS = new Runs(CHECKS);

    public static void main(String[] args) {
        begin();
        roll();
        fix();
        score();
        frame();
        leg();
        dart();
        fixDart();
        askedOfLegs();
        average();
        team();
        match();
        champion();
        pay();
        tries();
        CHECKS.end();
    }

    private static void begin() {
        RUNS.run("3: no such player, and the week is out of range", "begin 0 20 ! IndexOutOfBounds", "players 1",
                "begin 1 -1 ! IndexOutOfBounds", "begin -1 20 ! IndexOutOfBounds");
        String[] rows = new String[36];
        rows[0] = "players 1";
        for (int i = 0; i < 30; i++) {
            rows[i + 1] = "begin 0 0 = " + i;
        }
        rows[31] = "begin 1 0 ! IndexOutOfBounds";
        rows[32] = "begin 0 20 ! IllegalArgument";
        rows[33] = "begin -1 -1 ! IndexOutOfBounds";
        rows[34] = "begin 0 -1 ! IllegalArgument";
        rows[35] = "begin 0 19 ! IllegalState";
        RUNS.run("3: with 30 games: no such player, the week is out of range", rows);
    }

    private static void roll() {
        RUNS.run("4: no such game, and less than 0 pins, or more than stand",
                "roll 0 -1 false ! IndexOutOfBounds", "players 1", "begin 0 0", "roll 1 -1 false ! IndexOutOfBounds",
                "roll -1 11 true ! IndexOutOfBounds");
        RUNS.run("4: the game is done, and less than 0 pins, or more than stand",
                "players 1", "scored 0 0 9", "roll 0 -1 false ! UnsupportedOperation",
                "roll 0 1 false ! UnsupportedOperation", "roll 0 11 false ! UnsupportedOperation",
                "roll 0 11 true ! UnsupportedOperation", "roll 0 0 false ! UnsupportedOperation");
    }

    private static void fix() {
        RUNS.run("5: no such game, or no such roll, and less than 0 pins, or more than stand",
                "fix 0 0 -1 false ! IndexOutOfBounds", "players 1", "begin 0 0", "fix 0 0 -1 false ! IndexOutOfBounds",
                "fix 0 0 11 true ! IndexOutOfBounds", "bowl 0: 3 4", "fix 0 2 -1 false ! IndexOutOfBounds",
                "fix 0 -1 11 false ! IndexOutOfBounds", "fix 1 0 -1 false ! IndexOutOfBounds",
                "fix -1 -1 -1 false ! IndexOutOfBounds", "fix 1 9 11 true ! IndexOutOfBounds");
        RUNS.run("5: no such roll of a game that is done",
                "players 1", "scored 0 0 9", "fix 0 20 -1 false ! IndexOutOfBounds",
                "fix 0 20 0 false ! IndexOutOfBounds", "fix 0 -1 10 false ! IndexOutOfBounds");
        RUNS.run("5: less than 0 pins, or more than stand, and the game would be done ahead of its last roll",
                "players 1", "begin 0 0", "bowl 0: 9x10 4 6 3", "fix 0 10 5 false ! UnsupportedOperation",
                "fix 0 10 -1 false ! IllegalArgument", "fix 0 10 -1 true ! IllegalArgument",
                "fix 0 10 7 true ! IllegalArgument", "fix 0 10 7 false ! IllegalArgument",
                "fix 0 10 6 true ! UnsupportedOperation", "score 0 9 = 267");
        RUNS.run("5: a roll that is read has more than stand, and later ones would be left over",
                "players 1", "begin 0 0", "bowl 0: 3 4 7 0 16x0", "fix 0 0 10 false ! IllegalArgument",
                "fix 0 2 6 false = 10", "fix 0 0 10 false ! UnsupportedOperation", "isDone 0 = true");
    }

    private static void score() {
        RUNS.run("9: no such game, and no such frame", "score 0 10 ! IndexOutOfBounds", "players 1", "begin 0 0",
                "score 1 -1 ! IndexOutOfBounds", "score -1 10 ! IndexOutOfBounds");
        RUNS.run("9: no such frame, which is not decided either", "players 1", "begin 0 0",
                "score 0 10 ! IllegalArgument",
                "score 0 -1 ! IllegalArgument", "score 0 9 ! NoSuchElement", "score 0 0 ! NoSuchElement");
    }

    private static void frame() {
        RUNS.run("10: no such game, and no such frame", "frame 0 10 ! IndexOutOfBounds", "players 1", "begin 0 0",
                "frame 1 -1 ! IndexOutOfBounds", "frame -1 10 ! IndexOutOfBounds");
    }

    private static void leg() {
        RUNS.run("11: no such player, and both are the same, or the start is out of range",
                "players 2", "leg 2 2 101 false ! IndexOutOfBounds", "leg -1 -1 101 false ! IndexOutOfBounds",
                "leg 2 0 1 false ! IndexOutOfBounds", "leg 0 2 1002 false ! IndexOutOfBounds",
                "leg -1 0 1002 true ! IndexOutOfBounds", "leg 0 -1 1 true ! IndexOutOfBounds",
                "leg 1 1 1 false ! IllegalArgument");
        String[] rows = new String[14];
        rows[0] = "players 2";
        for (int i = 0; i < 8; i++) {
            rows[i + 1] = "leg 0 1 101 false = " + i;
        }
        rows[9] = "leg 2 0 101 false ! IndexOutOfBounds";
        rows[10] = "leg 0 2 1 false ! IndexOutOfBounds";
        rows[11] = "leg 1 1 101 false ! IllegalArgument";
        rows[12] = "leg 0 1 1002 false ! IllegalArgument";
        rows[13] = "leg 0 1 1001 false ! IllegalState";
        RUNS.run("11: with 8 legs: no such player, both are the same, the start is out of range", rows);
    }

    private static void dart() {
        RUNS.run("12: no such leg, and no such hit", "dart 0 21 1 ! IndexOutOfBounds", "players 2", "leg 0 1 2 false",
                "dart 1 0 2 ! IndexOutOfBounds", "dart -1 25 3 ! IndexOutOfBounds");
        RUNS.run("12: no such hit, and it is won", "players 2", "leg 0 1 2 false", "dart 0 1 2 = 0",
                "dart 0 21 1 ! IllegalArgument", "dart 0 0 2 ! IllegalArgument", "dart 0 1 2 ! UnsupportedOperation",
                "dart 1 1 2 ! IndexOutOfBounds");
        RUNS.run("12: no such hit, and it has 60 darts", "players 2", "leg 0 1 101 false", "throw 0: 60x1",
                "dart 0 25 3 ! IllegalArgument", "dart 0 0 2 ! IllegalArgument", "dart 0 0 1 ! IllegalState",
                "dart -1 0 1 ! IndexOutOfBounds");
        RUNS.run("12: it is won, and it has 60 darts", "players 2", "leg 0 1 2 false", "throw 0: 59x1 12",
                "dart 0 1 2 ! UnsupportedOperation", "dart 0 1 4 ! IllegalArgument", "dart 1 1 4 ! IndexOutOfBounds");
    }

    private static void fixDart() {
        RUNS.run("13: no such leg, or no such dart, and no such hit", "fixDart 0 0 21 1 ! IndexOutOfBounds",
                "players 2",
                "leg 0 1 101 false", "fixDart 0 0 21 1 ! IndexOutOfBounds", "throw 0: 11",
                "fixDart 0 1 21 1 ! IndexOutOfBounds", "fixDart 0 -1 0 2 ! IndexOutOfBounds",
                "fixDart 1 0 0 2 ! IndexOutOfBounds", "fixDart -1 0 0 2 ! IndexOutOfBounds");
        RUNS.run("13: no such hit, and it would be won ahead of its last dart", "players 2", "leg 0 1 60 false",
                "throw 0: 1 1", "fixDart 0 0 30 2 ! IllegalArgument", "fixDart 0 0 -30 -2 ! IllegalArgument",
                "fixDart 0 1 21 1 ! IllegalArgument", "leg 0 1 40 false", "throw 1: 1 202",
                "fixDart 1 0 20 2 ! UnsupportedOperation", "fixDart 1 0 20 4 ! IllegalArgument",
                "fixDart 1 2 20 2 ! IndexOutOfBounds");
    }

    private static void askedOfLegs() {
        RUNS.run("14: no such leg, and it is neither", "rest 0 2 ! IndexOutOfBounds", "players 2", "leg 0 1 101 false",
                "rest 1 -1 ! IndexOutOfBounds", "rest -1 2 ! IndexOutOfBounds");
        RUNS.run("19: no such leg, and no such dart", "wayOutAt 0 0 ! IndexOutOfBounds", "players 2",
                "leg 0 1 40 false",
                "wayOutAt 1 1 ! IndexOutOfBounds", "wayOutAt -1 -1 ! IndexOutOfBounds");
        RUNS.run("15, 16, 18: no such leg, of none, whether won or not", "turnOf 0 ! IndexOutOfBounds",
                "winner 0 ! IndexOutOfBounds", "wayOut 0 ! IndexOutOfBounds", "players 2", "leg 0 1 1001 false",
                "turnOf 1 ! IndexOutOfBounds", "winner 1 ! IndexOutOfBounds", "wayOut 1 ! IndexOutOfBounds");
    }

    private static void average() {
        RUNS.run("21: no such player, and no game is done", "average 0 ! IndexOutOfBounds", "players 1",
                "average 1 ! IndexOutOfBounds", "average -1 ! IndexOutOfBounds", "average 0 ! NoSuchElement");
    }

    private static void team() {
        RUNS.run("23: no such player, and both are the same, or one of them is in a team",
                "players 3", "team 0 1 = 0", "team 3 3 ! IndexOutOfBounds", "team -1 -1 ! IndexOutOfBounds",
                "team 0 3 ! IndexOutOfBounds", "team 3 1 ! IndexOutOfBounds", "team -1 0 ! IndexOutOfBounds",
                "team 2 2 ! IllegalArgument");
        RUNS.run("23: both are the same, and in a team", "players 3", "team 0 1 = 0", "team 0 0 ! IllegalArgument",
                "team 1 1 ! IllegalArgument", "team 0 2 ! UnsupportedOperation");
        RUNS.run("23: with 4 teams: no such player, both are the same, one of them is in a team",
                "players 8", "team 0 1 = 0", "team 2 3 = 1", "team 4 5 = 2", "team 6 7 = 3",
                "team 8 0 ! IndexOutOfBounds", "team 0 8 ! IndexOutOfBounds", "team 5 5 ! IllegalArgument",
                "team 0 7 ! UnsupportedOperation");
    }

    private static void match() {
        RUNS.run("24: no such team, and both are the same, the week is out of range, or one of them has a match",
                "players 6", "match 0 0 20 ! IndexOutOfBounds", "team 0 1", "team 2 3", "match 0 1 5 = 1",
                "match 2 2 5 ! IndexOutOfBounds", "match -1 -1 5 ! IndexOutOfBounds", "match 0 2 20 ! IndexOutOfBounds",
                "match 2 0 -1 ! IndexOutOfBounds", "match 0 2 5 ! IndexOutOfBounds", "match -1 1 5 ! IndexOutOfBounds");
        RUNS.run("24: both are the same, or the week is out of range, and one of them has a match",
                "players 4", "team 0 1", "team 2 3", "match 0 1 0 = 1", "match 0 1 19 = 2",
                "match 0 0 0 ! IllegalArgument", "match 1 1 19 ! IllegalArgument", "match 1 1 20 ! IllegalArgument",
                "match 0 1 20 ! IllegalArgument", "match 0 1 -1 ! IllegalArgument",
                "match 0 1 0 ! UnsupportedOperation");
        String[] rows = new String[31];
        rows[0] = "players 4";
        rows[1] = "team 0 1";
        rows[2] = "team 2 3";
        for (int i = 0; i < 20; i++) {
            rows[i + 3] = "match 0 1 " + i + " = " + (i + 1);
        }
        rows[23] = "match 0 2 0 ! IndexOutOfBounds";
        rows[24] = "match -1 1 20 ! IndexOutOfBounds";
        rows[25] = "match 0 0 0 ! IllegalArgument";
        rows[26] = "match 0 1 20 ! IllegalArgument";
        rows[27] = "match 0 1 0 ! UnsupportedOperation";
        rows[28] = "players 4";
        rows[29] = "team 4 5";
        rows[30] = "match 2 0 19 ! UnsupportedOperation";
        RUNS.run("24: with 20 matches, one of them has a match in this week", rows);
        rows[28] = "players 4";
        rows[29] = "team 4 5";
        rows[30] = "team 6 7";
        String[] more = java.util.Arrays.copyOf(rows, 34);
        more[31] = "match 2 2 20 ! IllegalArgument";
        more[32] = "match 4 2 0 ! IndexOutOfBounds";
        more[33] = "match 2 3 0 ! IllegalState";
        RUNS.run("24: with 20 matches, and no other one stands against it", more);
    }

    private static void champion() {
        RUNS.run("27: the week is out of range, and nobody is in it", "champion 20 ! IllegalArgument",
                "champion -1 ! IllegalArgument", "champion 0 ! NoSuchElement", "champion 19 ! NoSuchElement");
    }

    private static void pay() {
        RUNS.run("28: no such player, and the amount is out of range", "pay 0 0 ! IndexOutOfBounds", "players 1",
                "pay 1 0 ! IndexOutOfBounds", "pay 1 100 ! IndexOutOfBounds", "pay -1 -1 ! IndexOutOfBounds",
                "pay 0 0 ! IllegalArgument");
    }

    private static void tries() {
        RUNS.run("29: no such game, and no such frame", "tries 0 10 ! IndexOutOfBounds", "players 1", "begin 0 0",
                "tries 1 -1 ! IndexOutOfBounds", "tries -1 10 ! IndexOutOfBounds");
        RUNS.run("29: no such frame, which has no roll either", "players 1", "begin 0 0",
                "tries 0 10 ! IllegalArgument",
                "tries 0 -1 ! IllegalArgument", "tries 0 9 ! UnsupportedOperation", "bowl 0: 10", "tries 0 0 = 0",
                "tries 0 0 ! UnsupportedOperation", "tries 0 10 ! IllegalArgument");
    }
}
