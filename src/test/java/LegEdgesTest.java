import java.util.ArrayList;
import java.util.List;

/** The boundaries that the document names for legs, promises 11 to 19, a test for each sentence. */
public final class LegEdgesTest {
    private static final Checks CHECKS = new Checks();
    private static final Runs RUNS = new Runs(CHECKS);

    public static void main(String[] args) {
        legs();
        noSuchLeg();
        starts();
        turns();
        hits();
        doublesIn();
        notInCountsNothing();
        busts();
        bustTakesBack();
        bustTakesBackBeingIn();
        wins();
        sixtyDarts();
        fixedDart();
        fixWinsEarly();
        fixReadsAgain();
        whichRest();
        wayOutIndex();
        wayOutOfDartsLeft();
        noWayOut();
        everyWayOut();
        CHECKS.end();
    }

    private static void legs() {
        RUNS.run("11: IndexOutOfBoundsException if there is no such player, for either",
                "leg 0 1 101 false ! IndexOutOfBounds", "players 1", "leg 0 1 101 false ! IndexOutOfBounds",
                "leg 1 0 101 false ! IndexOutOfBounds", "players 1", "leg 0 2 101 false ! IndexOutOfBounds",
                "leg 2 0 101 false ! IndexOutOfBounds", "leg 0 -1 101 false ! IndexOutOfBounds",
                "leg -1 0 101 false ! IndexOutOfBounds", "leg 0 2147483647 101 false ! IndexOutOfBounds",
                "leg -2147483648 0 101 false ! IndexOutOfBounds", "leg 0 1 101 false = 0", "leg 1 0 101 false = 1");
        RUNS.run("11: IllegalArgumentException if both are the same",
                "players 2", "leg 0 0 101 false ! IllegalArgument", "leg 1 1 101 true ! IllegalArgument",
                "leg 1 0 101 true = 0");
        RUNS.run("11: At most 8 legs are numbered from 0",
                "players 3", "busts 0 ! IndexOutOfBounds", "leg 0 1 101 false = 0", "leg 0 1 101 false = 1",
                "leg 0 1 2 true = 2", "leg 1 2 1001 false = 3", "leg 2 1 101 false = 4", "leg 0 1 101 false = 5",
                "leg 0 1 101 false = 6", "busts 7 ! IndexOutOfBounds", "leg 2 0 301 false = 7",
                "leg 0 1 101 false ! IllegalState", "busts 7 = 0", "rest 7 0 = 301", "turnOf 7 = 2",
                "dart 7 1 1 = 300", "busts 8 ! IndexOutOfBounds", "leg 1 2 2 true ! IllegalState");
    }

    private static void noSuchLeg() {
        for (String call : new String[] {"dart # 1 1", "fixDart # 0 1 1", "rest # 0", "turnOf #", "busts #",
            "wayOut #", "wayOutAt # 0", "winner #"}) {
            String dart = call.startsWith("winner") ? "dart # 20 2" : "dart # 0 1";
            RUNS.run("IndexOutOfBoundsException if there is no such leg",
                    call.replace("#", "0") + " ! IndexOutOfBounds", "players 2",
                    call.replace("#", "0") + " ! IndexOutOfBounds", "leg 0 1 40 false = 0", dart.replace("#", "0"),
                    call.replace("#", "-1") + " ! IndexOutOfBounds", call.replace("#", "1") + " ! IndexOutOfBounds",
                    call.replace("#", "0"), "leg 0 1 40 false = 1", dart.replace("#", "1"),
                    call.replace("#", "1"), call.replace("#", "2") + " ! IndexOutOfBounds",
                    call.replace("#", "-2147483648") + " ! IndexOutOfBounds",
                    call.replace("#", "2147483647") + " ! IndexOutOfBounds");
        }
    }

    private static void starts() {
        RUNS.run("11: the start, 2 to 1001",
                "players 2", "leg 0 1 1 false ! IllegalArgument", "leg 0 1 0 false ! IllegalArgument",
                "leg 0 1 -2147483648 false ! IllegalArgument", "leg 0 1 2 false = 0", "leg 0 1 1001 false = 1",
                "leg 0 1 1002 false ! IllegalArgument", "leg 0 1 2147483647 true ! IllegalArgument",
                "rest 0 0 = 2", "rest 0 1 = 2", "rest 1 0 = 1001", "rest 1 1 = 1001");
        RUNS.run("11: each of two players, the first of whom begins; Each has a rest, the start at first",
                "players 3", "leg 2 0 301 false = 0", "turnOf 0 = 2", "rest 0 0 = 301", "rest 0 1 = 301",
                "leg 0 2 302 true = 1", "turnOf 1 = 0", "rest 1 0 = 302", "rest 1 1 = 302", "busts 1 = 0",
                "winner 1 ! NoSuchElement");
        RUNS.run("11: of the start 2 one dart wins",
                "players 2", "leg 0 1 2 false = 0", "leg 0 1 2 true = 1", "dart 0 1 2 = 0", "dart 1 1 2 = 0",
                "winner 0 = 0", "winner 1 = 0");
    }

    private static void turns() {
        RUNS.run("15: A turn has at most 3 darts, then it is the other one's",
                "players 3", "leg 2 1 501 false", "turnOf 0 = 2", "dart 0 1 1 = 500", "turnOf 0 = 2",
                "dart 0 1 1 = 499", "turnOf 0 = 2", "dart 0 1 1 = 498", "turnOf 0 = 1", "dart 0 2 1 = 499",
                "turnOf 0 = 1", "dart 0 2 1 = 497", "turnOf 0 = 1", "dart 0 2 1 = 495", "turnOf 0 = 2",
                "dart 0 1 1 = 497", "rest 0 0 = 497", "rest 0 1 = 495");
        RUNS.run("15: darts that hit nothing are darts of the turn",
                "players 2", "leg 0 1 501 false", "throw 0: 2x1", "turnOf 0 = 0", "throw 0: 1", "turnOf 0 = 1",
                "throw 0: 2x1", "turnOf 0 = 1", "throw 0: 1", "turnOf 0 = 0");
        RUNS.run("15: each leg has its own turn",
                "players 2", "leg 0 1 501 false", "leg 1 0 501 false", "throw 0: 3x1", "throw 1: 2x1",
                "turnOf 0 = 1", "turnOf 1 = 1", "throw 1: 1", "turnOf 1 = 0");
    }

    /** Every hit next to the border of what is a hit, thrown and told by a correction. */
    private static void hits() {
        int[][] borders = {{0, 0, 0}, {0, 1, 1}, {0, 2, 0}, {0, 3, 0}, {1, 0, 0}, {1, 1, 1}, {1, 2, 1}, {1, 3, 1},
            {1, 4, 0}, {20, 0, 0}, {20, 1, 1}, {20, 2, 1}, {20, 3, 1}, {20, 4, 0}, {21, 1, 0}, {21, 2, 0}, {24, 1, 0},
            {24, 2, 0}, {25, 0, 0}, {25, 1, 1}, {25, 2, 1}, {25, 3, 0}, {26, 1, 0}, {26, 2, 0}, {50, 1, 0}, {-1, 1, 0},
            {-1, -1, 0}, {1, -1, 0}, {25, -1, 0}, {Integer.MIN_VALUE, 1, 0}, {Integer.MAX_VALUE, 1, 0},
            {1, Integer.MIN_VALUE, 0}, {1, Integer.MAX_VALUE, 0}, {0, Integer.MAX_VALUE, 0}};
        for (int[] b : borders) {
            String hit = b[0] + " " + b[1];
            boolean isHit = b[2] == 1;
            int rest = 501 - b[0] * b[1];
            RUNS.run("12: A dart hits a part from 1 to 20 once, twice or three times, 25 once or twice, or nothing",
                    "players 2", "leg 0 1 501 false", "dart 0 " + hit + (isHit ? " = " + rest : " ! IllegalArgument"),
                    "turnOf 0 = 0");
            RUNS.run("13: IllegalArgumentException if there is no such hit",
                    "players 2", "leg 0 1 501 false", "dart 0 7 1 = 494",
                    "fixDart 0 0 " + hit + (isHit ? " = 0" : " ! IllegalArgument"),
                    "rest 0 0 = " + (isHit ? rest : 494));
        }
    }

    private static void doublesIn() {
        for (int part = 1; part <= 25; part += part == 20 ? 5 : 1) {
            int two = 2 * part;
            RUNS.run("12: darts of a player count nothing until the first double, which counts",
                    "players 2", "leg 0 1 501 true", "dart 0 " + part + " 1 = 501",
                "dart 0 " + part + " 2 = " + (501 - two),
                    "dart 0 " + part + " 1 = " + (501 - two - part), "dart 0 " + part + " 1 = 501", "rest 0 1 = 501");
        }
        RUNS.run("12: three times is no double, 25 once neither",
                "players 2", "leg 0 1 501 true", "dart 0 20 3 = 501", "dart 0 25 1 = 501", "dart 0 1 3 = 501",
                "turnOf 0 = 1", "dart 0 25 2 = 451", "dart 0 25 1 = 426", "dart 0 20 3 = 366", "turnOf 0 = 0",
                "dart 0 20 3 = 501");
        RUNS.run("12: in by the last dart of a turn, in for all later ones",
                "players 2", "leg 0 1 501 true", "dart 0 1 1 = 501", "dart 0 1 1 = 501", "dart 0 2 2 = 497",
                "throw 0: 3x1", "dart 0 1 1 = 496", "dart 0 3 3 = 487", "dart 0 0 1 = 487");
        RUNS.run("12: without doubles in all darts count",
                "players 2", "leg 0 1 501 false", "dart 0 1 1 = 500", "dart 0 1 3 = 497", "dart 0 25 1 = 472",
                "dart 0 0 1 = 501", "dart 0 1 1 = 500");
    }

    private static void notInCountsNothing() {
        RUNS.run("12: what counts nothing busts nothing",
                "players 2", "leg 0 1 2 true", "dart 0 20 3 = 2", "turnOf 0 = 0", "dart 0 1 1 = 2", "turnOf 0 = 0",
                "dart 0 2 1 = 2", "turnOf 0 = 1", "busts 0 = 0", "dart 0 1 2 = 0", "winner 0 = 1");
        RUNS.run("12: the first double may bust: to 1, to less than 0; it was not the first one then",
                "players 2", "leg 0 1 3 true", "dart 0 1 2 = 3", "busts 0 = 1", "turnOf 0 = 1", "dart 0 2 2 = 3",
                "busts 0 = 2", "turnOf 0 = 0", "dart 0 1 1 = 3", "busts 0 = 2", "turnOf 0 = 0", "dart 0 1 1 = 3",
                "dart 0 1 1 = 3", "turnOf 0 = 1", "busts 0 = 2");
        RUNS.run("12: the first double may leave 2",
                "players 2", "leg 0 1 4 true", "dart 0 1 2 = 2", "busts 0 = 0", "turnOf 0 = 0", "dart 0 1 2 = 0",
                "winner 0 = 0");
    }

    private static void busts() {
        String sentence = "12: When a dart would make the rest less than 0, or 1, or 0 without being a double";
        RUNS.run(sentence + ": -1", "players 2", "leg 0 1 19 false", "dart 0 20 1 = 19", "busts 0 = 1", "turnOf 0 = 1");
        RUNS.run(sentence + ": 0 by once", "players 2", "leg 0 1 20 false", "dart 0 20 1 = 20", "busts 0 = 1",
                "turnOf 0 = 1", "winner 0 ! NoSuchElement");
        RUNS.run(sentence + ": 0 by three times", "players 2", "leg 0 1 60 false", "dart 0 20 3 = 60", "busts 0 = 1",
                "turnOf 0 = 1", "winner 0 ! NoSuchElement");
        RUNS.run(sentence + ": 0 by 25 once", "players 2", "leg 0 1 25 false", "dart 0 25 1 = 25", "busts 0 = 1",
                "turnOf 0 = 1", "winner 0 ! NoSuchElement");
        RUNS.run(sentence + ": 0 by a double does not", "players 2", "leg 0 1 40 false", "dart 0 20 2 = 0",
                "busts 0 = 0", "winner 0 = 0");
        RUNS.run(sentence + ": 1", "players 2", "leg 0 1 21 false", "dart 0 20 1 = 21", "busts 0 = 1", "turnOf 0 = 1");
        RUNS.run(sentence + ": 1 by a double", "players 2", "leg 0 1 41 false", "dart 0 20 2 = 41", "busts 0 = 1",
                "turnOf 0 = 1");
        RUNS.run(sentence + ": 2 does not", "players 2", "leg 0 1 22 false", "dart 0 20 1 = 2", "busts 0 = 0",
                "turnOf 0 = 0");
        RUNS.run(sentence + ": less than 0 by a double", "players 2", "leg 0 1 38 false", "dart 0 20 2 = 38",
                "busts 0 = 1", "turnOf 0 = 1");
        RUNS.run(sentence + ": nothing hit at 2", "players 2", "leg 0 1 2 false", "dart 0 0 1 = 2", "busts 0 = 0",
                "turnOf 0 = 0");
        RUNS.run("17: Returns how many darts of a leg busted: of both players",
                "players 2", "leg 0 1 2 false", "busts 0 = 0", "dart 0 1 1 = 2", "busts 0 = 1", "dart 0 2 1 = 2",
                "busts 0 = 2", "dart 0 20 3 = 2", "busts 0 = 3", "dart 0 0 1 = 2", "busts 0 = 3");
        RUNS.run("17: 60 at most", "players 2", "leg 0 1 2 false", "throw 0: 60x11", "busts 0 = 60",
                "dart 0 1 1 ! IllegalState", "turnOf 0 = 0");
    }

    private static void bustTakesBack() {
        RUNS.run("12: the rest is as it was when the turn began, and the turn ends: by the first dart",
                "players 2", "leg 0 1 50 false", "dart 0 20 3 = 50", "turnOf 0 = 1", "dart 0 20 1 = 30");
        RUNS.run("12: the rest is as it was when the turn began, and the turn ends: by the second dart",
                "players 2", "leg 0 1 50 false", "dart 0 20 1 = 30", "dart 0 20 3 = 50", "turnOf 0 = 1",
                "rest 0 1 = 50");
        RUNS.run("12: the rest is as it was when the turn began, and the turn ends: by the third dart",
                "players 2", "leg 0 1 50 false", "dart 0 20 1 = 30", "dart 0 10 1 = 20", "dart 0 20 1 = 50",
                "turnOf 0 = 1", "throw 0: 2x1", "turnOf 0 = 1", "throw 0: 1", "turnOf 0 = 0");
        RUNS.run("12: the turn, not the leg, and of this player",
                "players 2", "leg 0 1 50 false", "throw 0: 11 11 11", "throw 0: 21 21 21", "dart 0 20 1 = 27",
                "dart 0 20 2 = 47", "rest 0 1 = 44", "dart 0 20 1 = 24", "dart 0 20 2 = 44", "rest 0 0 = 47");
        RUNS.run("12: after a bust the next turn has 3 darts again",
                "players 2", "leg 0 1 50 false", "dart 0 0 1 = 50", "dart 0 20 3 = 50", "throw 0: 3x1", "turnOf 0 = 0",
                "throw 0: 2x1", "turnOf 0 = 0", "throw 0: 1", "turnOf 0 = 1");
    }

    private static void bustTakesBackBeingIn() {
        RUNS.run("12: also whether the player was in: not, if the first double was in this turn",
                "players 2", "leg 0 1 40 true", "dart 0 1 2 = 38", "dart 0 1 1 = 37", "dart 0 20 2 = 40", "busts 0 = 1",
                "throw 0: 3x1", "dart 0 1 1 = 40", "dart 0 20 1 = 40", "busts 0 = 1", "dart 0 1 2 = 38");
        RUNS.run("12: also whether the player was in: in, if the first double was in an earlier turn",
                "players 2", "leg 0 1 40 true", "dart 0 1 2 = 38", "throw 0: 2x1", "throw 0: 3x1", "dart 0 20 2 = 38",
                "busts 0 = 1", "throw 0: 3x1", "dart 0 1 1 = 37");
        RUNS.run("12: also whether the player was in: the other one stays in, or not",
                "players 2", "leg 0 1 40 true", "throw 0: 12 1 1", "dart 0 1 2 = 38", "dart 0 20 2 = 40",
                "dart 0 1 1 = 37",
                "throw 0: 1 1", "dart 0 1 1 = 40");
    }

    private static void wins() {
        RUNS.run("16: Who comes to 0 by a double has won: by the first, second or third dart of a turn",
                "players 3", "leg 2 1 40 false", "leg 2 1 40 false", "leg 2 1 40 false", "dart 0 20 2 = 0",
                "winner 0 = 2", "throw 1: 1", "dart 1 20 2 = 0", "winner 1 = 2", "throw 2: 1 1", "dart 2 20 2 = 0",
                "winner 2 = 2", "rest 2 0 = 0", "rest 2 1 = 40");
        RUNS.run("16: the other one", "players 3", "leg 2 1 40 false", "throw 0: 3x1 1 1", "dart 0 20 2 = 0",
                "winner 0 = 1", "rest 0 0 = 40", "rest 0 1 = 0");
        RUNS.run("16: by 25 twice", "players 2", "leg 0 1 50 false", "dart 0 25 2 = 0", "winner 0 = 0");
        RUNS.run("16: NoSuchElementException if it is not won",
                "players 2", "leg 0 1 2 false", "winner 0 ! NoSuchElement", "dart 0 0 1 = 2",
                "winner 0 ! NoSuchElement", "dart 0 1 2 = 0", "winner 0 = 0");
        RUNS.run("15: NoSuchElementException if it is won",
                "players 2", "leg 0 1 2 false", "turnOf 0 = 0", "dart 0 1 2 = 0", "turnOf 0 ! NoSuchElement",
                "fixDart 0 0 0 1 = 0", "turnOf 0 = 0");
        RUNS.run("12: UnsupportedOperationException if it is won",
                "players 2", "leg 0 1 2 false", "leg 0 1 2 false", "dart 0 0 1 = 2", "dart 0 1 2 = 0",
                "dart 0 0 1 ! UnsupportedOperation", "dart 0 1 2 ! UnsupportedOperation", "dart 1 0 1 = 2",
                "fixDart 0 1 0 1 = 0", "dart 0 1 2 = 0", "dart 0 20 3 ! UnsupportedOperation");
    }

    private static void sixtyDarts() {
        RUNS.run("12: IllegalStateException if it has 60 darts",
                "players 2", "leg 0 1 40 false", "leg 0 1 40 false", "throw 0: 59x1", "turnOf 0 = 1",
                "dart 0 0 1 = 40", "turnOf 0 = 0", "dart 0 0 1 ! IllegalState", "dart 0 20 2 ! IllegalState",
                "dart 1 0 1 = 40", "fixDart 0 60 1 1 ! IndexOutOfBounds", "fixDart 0 59 1 1 = 0", "rest 0 1 = 39",
                "fixDart 0 0 1 1 = 0", "rest 0 0 = 39", "dart 0 0 1 ! IllegalState");
        RUNS.run("12: the 60th dart may win",
                "players 2", "leg 0 1 40 false", "throw 0: 59x1", "dart 0 20 2 = 0", "winner 0 = 1",
                "dart 0 0 1 ! UnsupportedOperation", "fixDart 0 59 20 1 = 0", "dart 0 0 1 ! IllegalState",
                "fixDart 0 59 20 2 = 1", "winner 0 = 1");
        RUNS.run("18: as many as are left in the turn, also of a leg with 60 darts",
                "players 2", "leg 0 1 41 false", "throw 0: 59x1", "wayOut 0 ! NoSuchElement", "throw 0: 1",
                "wayOut 0 = 2",
                "dart 0 20 2 ! IllegalState");
    }

    private static void fixedDart() {
        RUNS.run("13: IndexOutOfBoundsException if it has no such dart",
                "players 2", "leg 0 1 101 false", "fixDart 0 0 1 1 ! IndexOutOfBounds",
                "fixDart 0 -1 1 1 ! IndexOutOfBounds", "dart 0 1 1 = 100", "fixDart 0 0 2 1 = 0",
                "fixDart 0 1 1 1 ! IndexOutOfBounds", "fixDart 0 -1 1 1 ! IndexOutOfBounds", "rest 0 0 = 99",
                "dart 0 1 1 = 98", "fixDart 0 1 2 1 = 0", "fixDart 0 2 1 1 ! IndexOutOfBounds",
                "fixDart 0 2147483647 1 1 ! IndexOutOfBounds", "fixDart 0 -2147483648 1 1 ! IndexOutOfBounds",
                "rest 0 0 = 97");
        RUNS.run("13: Returns the player whose turn it is, or who has won",
                "players 5", "leg 4 2 40 false", "dart 0 1 1 = 39", "fixDart 0 0 0 1 = 4", "throw 0: 1",
                "fixDart 0 1 1 2 = 4", "throw 0: 1", "fixDart 0 2 2 2 = 2", "fixDart 0 2 20 3 = 2",
                "fixDart 0 0 20 3 = 4", "fixDart 0 0 0 1 = 2", "fixDart 0 2 19 2 = 4", "winner 0 = 4",
                "fixDart 0 1 1 1 = 2", "fixDart 0 1 1 2 = 4");
        RUNS.run("13: the first and the last of 60 darts",
                "players 2", "leg 0 1 1001 false", "throw 0: 60x1", "fixDart 0 0 20 3 = 0", "rest 0 0 = 941",
                "fixDart 0 59 25 2 = 0", "rest 0 1 = 951", "fixDart 0 60 1 1 ! IndexOutOfBounds");
    }

    private static void fixWinsEarly() {
        RUNS.run("13: UnsupportedOperationException if it would be won ahead of its last dart",
                "players 2", "leg 0 1 40 false", "dart 0 0 1 = 40", "dart 0 0 1 = 40",
                "fixDart 0 0 20 2 ! UnsupportedOperation", "turnOf 0 = 0", "fixDart 0 1 20 2 = 0", "winner 0 = 0",
                "fixDart 0 0 20 2 ! UnsupportedOperation", "winner 0 = 0", "fixDart 0 0 1 1 = 1", "busts 0 = 1");
        RUNS.run("13: won by the dart itself, or by a later one, ahead of the last one",
                "players 2", "leg 0 1 40 false", "throw 0: 51 102 1", "turnOf 0 = 1", "rest 0 0 = 15",
                "fixDart 0 0 10 2 ! UnsupportedOperation", "rest 0 0 = 15", "fixDart 0 1 20 2 = 1",
                "busts 0 = 1", "fixDart 0 1 10 2 = 1", "fixDart 0 0 20 2 ! UnsupportedOperation", "rest 0 0 = 15");
        RUNS.run("13: won by the other one, as turns move",
                "players 2", "leg 0 1 40 false", "throw 0: 1 202", "winner 0 = 0", "fixDart 0 0 20 3 = 1",
                "winner 0 = 1", "fixDart 0 0 0 1 = 0", "winner 0 = 0");
        RUNS.run("13: won by the other one ahead of the last dart, as turns move",
                "players 2", "leg 0 1 40 false", "throw 0: 11 202", "busts 0 = 1", "turnOf 0 = 1",
                "fixDart 0 0 20 3 = 1", "winner 0 = 1", "fixDart 0 0 1 1 = 1", "throw 0: 1",
                "fixDart 0 0 20 3 ! UnsupportedOperation", "rest 0 0 = 40", "rest 0 1 = 40", "turnOf 0 = 1");
        RUNS.run("13: won in a leg with doubles in, as the first double comes earlier",
                "players 2", "leg 0 1 42 true", "throw 0: 11 202 1", "rest 0 0 = 2",
                "fixDart 0 0 1 2 ! UnsupportedOperation", "rest 0 0 = 2", "throw 0: 1",
                "fixDart 0 0 1 2 ! UnsupportedOperation", "fixDart 0 1 0 1 = 1", "fixDart 0 0 1 2 = 1",
                "rest 0 0 = 40");
    }

    private static void fixReadsAgain() {
        RUNS.run("13: all darts of the leg are read again: a bust comes and goes, and turns move",
                "players 2", "leg 0 1 60 false", "throw 0: 203 101 1 1 11", "busts 0 = 1", "turnOf 0 = 0",
                "rest 0 0 = 59", "rest 0 1 = 50", "fixDart 0 0 0 1 = 1", "busts 0 = 0", "rest 0 0 = 50",
                "rest 0 1 = 59", "turnOf 0 = 1", "fixDart 0 0 20 3 = 0", "busts 0 = 1", "rest 0 0 = 59",
                "rest 0 1 = 50");
        RUNS.run("13: all darts of the leg are read again: who is in",
                "players 2", "leg 0 1 101 true", "throw 0: 12 203 201", "rest 0 0 = 19", "fixDart 0 0 1 1 = 1",
                "rest 0 0 = 101", "fixDart 0 2 20 2 = 1", "rest 0 0 = 61", "fixDart 0 0 1 2 = 1", "busts 0 = 1",
                "rest 0 0 = 101");
        RUNS.run("13: a correction to the same changes nothing",
                "players 2", "leg 0 1 60 false", "throw 0: 203 101", "fixDart 0 0 20 3 = 1", "fixDart 0 1 10 1 = 1",
                "busts 0 = 1", "rest 0 1 = 50", "throw 0: 1", "turnOf 0 = 1", "throw 0: 1", "turnOf 0 = 0");
        RUNS.run("13: a correction of one leg leaves another one",
                "players 2", "leg 0 1 60 false", "leg 0 1 60 false", "throw 0: 11", "throw 1: 11",
                "fixDart 1 0 2 1 = 0", "rest 0 0 = 59", "rest 1 0 = 58");
    }

    private static void whichRest() {
        RUNS.run("14: 0 for the one who began, 1 for the other one; IllegalArgumentException if it is neither",
                "players 3", "leg 2 1 101 false", "rest 0 -1 ! IllegalArgument", "rest 0 0 = 101", "rest 0 1 = 101",
                "rest 0 2 ! IllegalArgument", "rest 0 -2147483648 ! IllegalArgument",
                "rest 0 2147483647 ! IllegalArgument", "throw 0: 11", "rest 0 0 = 100", "rest 0 1 = 101",
                "throw 0: 1 1 21", "rest 0 0 = 100", "rest 0 1 = 99");
    }

    private static void wayOutIndex() {
        RUNS.run("19: its place, from 0: NoSuchElementException if there is no such dart",
                "players 2", "leg 0 1 40 false", "leg 0 1 41 false", "leg 0 1 170 false", "wayOut 0 = 1",
                "wayOutAt 0 -1 ! NoSuchElement", "wayOutAt 0 0 = 202", "wayOutAt 0 1 ! NoSuchElement", "wayOut 1 = 2",
                "wayOutAt 1 -1 ! NoSuchElement", "wayOutAt 1 0 = 11", "wayOutAt 1 1 = 202",
                "wayOutAt 1 2 ! NoSuchElement", "wayOut 2 = 3", "wayOutAt 2 -1 ! NoSuchElement", "wayOutAt 2 0 = 203",
                "wayOutAt 2 1 = 203", "wayOutAt 2 2 = 252", "wayOutAt 2 3 ! NoSuchElement",
                "wayOutAt 2 2147483647 ! NoSuchElement", "wayOutAt 2 -2147483648 ! NoSuchElement",
                "wayOutAt 0 1 ! NoSuchElement", "wayOutAt 1 2 ! NoSuchElement");
        RUNS.run("18, 19: NoSuchElementException if it is won",
                "players 2", "leg 0 1 42 false", "throw 0: 12", "wayOut 0 = 1", "wayOutAt 0 0 = 202", "throw 0: 202",
                "wayOut 0 ! NoSuchElement", "wayOutAt 0 0 ! NoSuchElement", "fixDart 0 1 0 1 = 0", "wayOut 0 = 1",
                "wayOutAt 0 0 = 202");
    }

    private static void wayOutOfDartsLeft() {
        RUNS.run("18: at most as many as are left in the turn: 3, 2, 1, and 3 of the other one",
                "players 2", "leg 0 1 170 false", "wayOut 0 = 3", "throw 0: 1", "wayOut 0 ! NoSuchElement",
                "wayOutAt 0 0 ! NoSuchElement", "throw 0: 1", "wayOut 0 ! NoSuchElement", "throw 0: 1", "wayOut 0 = 3");
        RUNS.run("18: at most as many as are left in the turn: two are enough",
                "players 2", "leg 0 1 110 false", "wayOut 0 = 2", "throw 0: 1", "wayOut 0 = 2", "wayOutAt 0 0 = 203",
                "wayOutAt 0 1 = 252", "throw 0: 1", "wayOut 0 ! NoSuchElement", "throw 0: 1", "wayOut 0 = 2");
        RUNS.run("18: at most as many as are left in the turn: one is enough",
                "players 2", "leg 0 1 50 false", "throw 0: 2x1", "wayOut 0 = 1", "wayOutAt 0 0 = 252", "throw 0: 1",
                "wayOut 0 = 1");
        RUNS.run("18: for the one whose turn it is",
                "players 2", "leg 0 1 60 false", "throw 0: 201 1 1", "wayOut 0 = 2", "throw 0: 3x1", "wayOut 0 = 1");
        RUNS.run("18: a bust gives the other one 3 darts",
                "players 2", "leg 0 1 119 false", "throw 0: 203", "wayOut 0 = 2", "dart 0 20 3 = 119",
                "turnOf 0 = 1", "wayOut 0 = 3");
        RUNS.run("18: fewest darts first, then the lowest one",
                "players 2", "leg 0 1 4 false", "wayOut 0 = 1", "wayOutAt 0 0 = 22", "leg 0 1 42 false", "wayOut 1 = 2",
                "wayOutAt 1 0 = 12", "wayOutAt 1 1 = 202", "leg 0 1 99 false", "wayOut 2 = 3", "wayOutAt 2 0 = 11",
                "wayOutAt 2 1 = 163", "wayOutAt 2 2 = 252");
    }

    private static void noWayOut() {
        RUNS.run("18: NoSuchElementException if there is no way out",
                "players 2", "leg 0 1 158 false", "leg 0 1 159 false", "leg 0 1 170 false", "leg 0 1 171 false",
                "leg 0 1 1001 false", "leg 0 1 160 true", "leg 0 1 161 true", "leg 0 1 162 true", "wayOut 0 = 3",
                "wayOut 1 ! NoSuchElement", "wayOutAt 1 0 ! NoSuchElement", "wayOut 2 = 3", "wayOut 3 ! NoSuchElement",
                "wayOutAt 3 0 ! NoSuchElement", "wayOut 4 ! NoSuchElement", "wayOut 5 = 3", "wayOut 6 ! NoSuchElement",
                "wayOut 7 ! NoSuchElement");
    }

    /** Every rest up to 180, with each number of darts left, in and not in, against all rows of darts. */
    private static void everyWayOut() {
        for (int rest = 2; rest <= 180; rest++) {
            PinHall hall = Halls.withPlayers(2);
            for (int leg = 0; leg < 6; leg++) {
                hall.leg(0, 1, rest, leg >= 3);
                for (int missed = 0; missed < leg % 3; missed++) {
                    hall.dart(leg, 0, 1);
                }
                List<Integer> due = bestWay(rest, leg < 3, 3 - leg % 3);
                CHECKS.due("18: best way of " + rest + " in leg " + leg, wayOf(hall, leg), due);
            }
        }
    }

    private static List<Integer> wayOf(PinHall hall, int leg) {
        List<Integer> way = new ArrayList<>();
        try {
            int darts = hall.wayOut(leg);
            for (int i = 0; i < darts; i++) {
                way.add(hall.wayOutAt(leg, i));
            }
        } catch (java.util.NoSuchElementException e) {
            way.clear();
        }
        return way;
    }

    private static List<Integer> bestWay(int rest, boolean isIn, int left) {
        for (int darts = 1; darts <= left; darts++) {
            List<Integer> way = wayOfLength(rest, isIn, darts);
            if (!way.isEmpty()) {
                return way;
            }
        }
        return List.of();
    }

    private static List<Integer> wayOfLength(int rest, boolean isIn, int darts) {
        for (int part = 1; part <= 25; part += part == 20 ? 5 : 1) {
            for (int times = 1; times <= (part == 25 ? 2 : 3); times++) {
                boolean isInThen = isIn || times == 2;
                int then = isInThen ? rest - part * times : rest;
                List<Integer> way = new ArrayList<>(List.of(10 * part + times));
                if (darts == 1 && then == 0 && times == 2) {
                    return way;
                }
                List<Integer> more = darts > 1 && then > 1 ? wayOfLength(then, isInThen, darts - 1) : List.of();
                if (!more.isEmpty()) {
                    way.addAll(more);
                    return way;
                }
            }
        }
        return List.of();
    }
}
