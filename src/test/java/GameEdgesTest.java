/** The boundaries that the document names for players and games, promises 1 to 10, a test for each sentence. */
public final class GameEdgesTest {
    private static final Checks CHECKS = new Checks();
    private static final Runs RUNS = new Runs(CHECKS);

    public static void main(String[] args) {
        newHall();
        players();
        gamesAndWeeks();
        order();
        tenFrames();
        tenPins();
        takesOfThoseThatStand();
        fouls();
        frameIsOver();
        lastFrameIsOver();
        gameIsDone();
        strikesAndSpares();
        whatFramesCount();
        lastFrameCounts();
        decided();
        fixEachPair();
        fixedRollAndLaterRolls();
        fixReadsAgain();
        fixToItsEnd();
        fixInLastFrame();
        fixCountsFrames();
        fixFouls();
        CHECKS.end();
    }

    private static void newHall() {
        RUNS.run("1: Creates a hall without players, with an empty pot",
                "purse 0 ! IndexOutOfBounds", "average 0 ! IndexOutOfBounds", "handicap 0 ! IndexOutOfBounds",
                "begin 0 0 ! IndexOutOfBounds", "leg 0 1 101 false ! IndexOutOfBounds",
                "team 0 1 ! IndexOutOfBounds", "pay 0 1 ! IndexOutOfBounds", "rolls 0 ! IndexOutOfBounds",
                "busts 0 ! IndexOutOfBounds", "points 0 ! IndexOutOfBounds", "ranked 0 ! IndexOutOfBounds",
                "match 0 1 0 ! IndexOutOfBounds", "champion 0 ! NoSuchElement", "champion 19 ! NoSuchElement",
                "pins = 0", "strikeShare ! Arithmetic", "meanScore ! Arithmetic", "isSound = true",
                "addPlayer = 0", "pay 0 1 = 1");
        RUNS.run("1: an empty pot pays nothing", "addPlayer = 0", "begin 0 0 = 0", "bowl 0: 10",
                "tries 0 0 = 0", "purse 0 = 0");
    }

    private static void players() {
        RUNS.run("2: At most 8 players are numbered from 0",
                "purse 0 ! IndexOutOfBounds", "addPlayer = 0", "purse 0 = 0", "purse -1 ! IndexOutOfBounds",
                "purse 1 ! IndexOutOfBounds", "addPlayer = 1", "addPlayer = 2", "addPlayer = 3", "addPlayer = 4",
                "addPlayer = 5", "addPlayer = 6", "purse 7 ! IndexOutOfBounds", "addPlayer = 7", "purse 7 = 0",
                "addPlayer ! IllegalState", "purse 8 ! IndexOutOfBounds", "addPlayer ! IllegalState");
        RUNS.run("2: the players 0 and 7 are as good as any",
                "players 8", "begin 0 0 = 0", "begin 7 0 = 1", "leg 7 0 2 false = 0", "team 0 7 = 0",
                "pay 7 1 = 1", "average 7 ! NoSuchElement", "handicap 7 = 0");
    }

    private static void gamesAndWeeks() {
        RUNS.run("3: in a week from 0 to 19",
                "players 1", "begin 0 -1 ! IllegalArgument", "begin 0 0 = 0", "begin 0 19 = 1",
                "begin 0 20 ! IllegalArgument", "begin 0 -2147483648 ! IllegalArgument",
                "begin 0 2147483647 ! IllegalArgument", "begin 0 1 = 2");
        RUNS.run("3: IndexOutOfBoundsException if there is no such player",
                "begin 0 0 ! IndexOutOfBounds", "players 2", "begin -1 0 ! IndexOutOfBounds",
                "begin 2 0 ! IndexOutOfBounds", "begin -2147483648 0 ! IndexOutOfBounds",
                "begin 2147483647 0 ! IndexOutOfBounds", "begin 1 0 = 0", "begin 0 0 = 1");
        String[] rows = new String[36];
        rows[0] = "players 2";
        for (int i = 0; i < 30; i++) {
            rows[i + 1] = "begin " + i % 2 + " " + i % 20 + " = " + i;
        }
        rows[31] = "begin 0 0 ! IllegalState";
        rows[32] = "begin 1 19 ! IllegalState";
        rows[33] = "rolls 29 = 0";
        rows[34] = "roll 29 10 false = 0";
        rows[35] = "rolls 30 ! IndexOutOfBounds";
        RUNS.run("3: At most 30 games are numbered from 0", rows);
        for (String call : new String[] {"rolls #", "standing #", "isDone #", "score # 0", "frame # 0", "tries # 0",
            "roll # 0 false", "fix # 0 0 false"}) {
            String of0 = call.replace("#", "0");
            RUNS.run("IndexOutOfBoundsException if there is no such game",
                    of0 + " ! IndexOutOfBounds", "players 1", of0 + " ! IndexOutOfBounds", "begin 0 0 = 0",
                    "bowl 0: 3 4", call.replace("#", "-1") + " ! IndexOutOfBounds", of0,
                    call.replace("#", "1") + " ! IndexOutOfBounds", "begin 0 19 = 1", "bowl 1: 3 4",
                    call.replace("#", "1"), call.replace("#", "2") + " ! IndexOutOfBounds",
                    call.replace("#", "-2147483648") + " ! IndexOutOfBounds",
                    call.replace("#", "2147483647") + " ! IndexOutOfBounds");
        }
    }

    private static void order() {
        RUNS.run("the games of a player in a week stand in the order in which they were begun",
                "players 2", "setHandicap 0 0 0", "begin 0 3 = 0", "scored 0 3 20", "scored 1 3 30",
                "champion 3 = 1", "bowl 0: 4 4 4 4 4 4 4 4 4 4 10x0", "champion 3 = 0");
        RUNS.run("the games of a player in a week: those of another week or player stand elsewhere",
                "players 2", "setHandicap 0 0 0", "scored 0 4 90", "scored 1 2 90", "scored 0 3 20", "scored 1 3 30",
                "champion 3 = 1", "champion 4 = 0", "champion 2 = 1", "champion 1 ! NoSuchElement");
    }

    private static void tenFrames() {
        RUNS.run("9: frame, 0 to 9: IllegalArgumentException if there is no such frame",
                "players 1", "scored 0 0 90", "score 0 -1 ! IllegalArgument", "score 0 0 = 9", "score 0 9 = 90",
                "score 0 10 ! IllegalArgument", "score 0 2147483647 ! IllegalArgument",
                "score 0 -2147483648 ! IllegalArgument");
        RUNS.run("10: frame, 0 to 9: IllegalArgumentException if there is no such frame",
                "players 1", "scored 0 0 90", "frame 0 -1 ! IllegalArgument", "frame 0 0 = o", "frame 0 9 = o",
                "frame 0 10 ! IllegalArgument", "frame 0 2147483647 ! IllegalArgument",
                "frame 0 -2147483648 ! IllegalArgument");
        RUNS.run("4: A game has 10 frames, numbered from 0",
                "players 1", "begin 0 0", "roll 0 10 false = 0", "roll 0 10 false = 1", "roll 0 10 false = 2",
                "roll 0 10 false = 3", "roll 0 10 false = 4", "roll 0 10 false = 5", "roll 0 10 false = 6",
                "roll 0 10 false = 7", "roll 0 10 false = 8", "roll 0 10 false = 9", "roll 0 10 false = 9",
                "roll 0 10 false = 9", "roll 0 10 false ! UnsupportedOperation");
    }

    private static void tenPins() {
        RUNS.run("7: In a frame, 10 pins stand at first",
                "players 1", "begin 0 0", "standing 0 = 10", "bowl 0: 10", "standing 0 = 10", "bowl 0: 3 4",
                "standing 0 = 10", "bowl 0: 4 6", "standing 0 = 10", "bowl 0: 2x0", "standing 0 = 10",
                "bowl 0: 2x0f", "standing 0 = 10", "bowl 0: 4x10", "standing 0 = 10", "frame 0 8 = x");
    }

    private static void takesOfThoseThatStand() {
        for (int first = 0; first <= 9; first++) {
            int stand = 10 - first;
            RUNS.run("4: IllegalArgumentException if there are less than 0 pins, or more than stand",
                    "players 1", "begin 0 0", "roll 0 -1 false ! IllegalArgument",
                    "roll 0 11 false ! IllegalArgument", "roll 0 " + first + " false = 0", "standing 0 = " + stand,
                    "roll 0 -1 false ! IllegalArgument", "roll 0 " + (stand + 1) + " false ! IllegalArgument",
                    "rolls 0 = 1", "roll 0 " + stand + " false = 0", "frame 0 0 = /", "standing 0 = 10");
        }
        RUNS.run("4: less than 0 pins, or more than stand, at the ends of int",
                "players 1", "begin 0 0", "roll 0 -2147483648 false ! IllegalArgument",
                "roll 0 2147483647 false ! IllegalArgument", "roll 0 0 false = 0", "roll 0 0 false = 0");
        RUNS.run("4: more than stand in the last frame",
                "players 1", "begin 0 0", "bowl 0: 9x10", "roll 0 11 false ! IllegalArgument", "bowl 0: 10",
                "roll 0 11 false ! IllegalArgument", "roll 0 4 false = 9", "roll 0 7 false ! IllegalArgument",
                "roll 0 7 true ! IllegalArgument", "roll 0 6 false = 9", "isDone 0 = true");
        RUNS.run("4: more than stand for the third roll after a spare",
                "players 1", "begin 0 0", "bowl 0: 9x10 4 6", "roll 0 11 false ! IllegalArgument",
                "roll 0 10 false = 9", "isDone 0 = true");
    }

    private static void fouls() {
        RUNS.run("4: by a foul none are taken",
                "players 1", "begin 0 0", "roll 0 10 true = 0", "standing 0 = 10", "roll 0 10 false = 0",
                "frame 0 0 = /", "bowl 0: 9 1f", "standing 0 = 10", "frame 0 1 = o", "bowl 0: 0f", "standing 0 = 10");
        RUNS.run("4: and it counts 0",
                "players 1", "begin 0 0", "bowl 0: 4f 5", "score 0 0 = 5", "bowl 0: 5 4f", "score 0 1 = 10",
                "bowl 0: 10 10f 3", "score 0 2 = 23", "score 0 3 = 26", "bowl 0: 5 5 7f 1", "score 0 4 = 36");
        RUNS.run("4: how many pins it would take without a foul: no more than stand",
                "players 1", "begin 0 0", "roll 0 -1 true ! IllegalArgument", "roll 0 11 true ! IllegalArgument",
                "bowl 0: 4", "roll 0 7 true ! IllegalArgument", "roll 0 -1 true ! IllegalArgument",
                "roll 0 6 true = 0", "frame 0 0 = o", "score 0 0 = 4", "roll 0 0 true = 1");
    }

    private static void frameIsOver() {
        RUNS.run("4: A frame but the last one is over when no pin stands, or by its second roll",
                "players 1", "begin 0 0", "roll 0 10 false = 0", "roll 0 9 false = 1", "frame 0 1 = -",
                "roll 0 0 false = 1", "frame 0 1 = o", "roll 0 0 false = 2", "frame 0 2 = -", "roll 0 0 false = 2",
                "frame 0 2 = o", "roll 0 0 false = 3", "roll 0 10 false = 3", "roll 0 9 false = 4",
                "roll 0 1 false = 4", "roll 0 10 true = 5", "roll 0 10 true = 5", "roll 0 10 false = 6",
                "roll 0 0 false = 7");
        RUNS.run("4: the frame next to the last one has no third roll",
                "players 1", "begin 0 0", "bowl 0: 8x10", "roll 0 4 false = 8", "roll 0 6 false = 8",
                "roll 0 1 false = 9");
        RUNS.run("4: nor a second one after a strike",
                "players 1", "begin 0 0", "bowl 0: 8x10", "roll 0 10 false = 8", "roll 0 1 false = 9");
    }

    private static void lastFrameIsOver() {
        RUNS.run("8: In the last frame, whenever no pin stands, all are set up again; over by its third roll",
                "players 1", "begin 0 0", "bowl 0: 9x10", "standing 0 = 10", "isDone 0 = false", "roll 0 10 false = 9",
                "standing 0 = 10", "isDone 0 = false", "roll 0 10 false = 9", "standing 0 = 10", "isDone 0 = false",
                "roll 0 10 false = 9", "standing 0 = 0", "isDone 0 = true", "rolls 0 = 12",
                "roll 0 0 false ! UnsupportedOperation");
        RUNS.run("8: or by the second one, if none were set up again in it by then",
                "players 1", "begin 0 0", "bowl 0: 9x10 9", "standing 0 = 1", "isDone 0 = false",
                "roll 0 0 false = 9", "standing 0 = 0", "isDone 0 = true", "roll 0 0 false ! UnsupportedOperation");
        RUNS.run("8: they were set up again by a spare",
                "players 1", "begin 0 0", "bowl 0: 9x10 9", "roll 0 1 false = 9", "standing 0 = 10",
                "isDone 0 = false", "roll 0 9 false = 9", "standing 0 = 0", "isDone 0 = true");
        RUNS.run("8: they were set up again by a strike alone",
                "players 1", "begin 0 0", "bowl 0: 9x10 10 0", "standing 0 = 10", "isDone 0 = false",
                "roll 0 0 false = 9", "isDone 0 = true");
        RUNS.run("8: no pin stands by the third roll: none are set up for a fourth one",
                "players 1", "begin 0 0", "bowl 0: 9x10 10 9", "standing 0 = 1", "roll 0 1 false = 9",
                "standing 0 = 0", "isDone 0 = true", "roll 0 0 false ! UnsupportedOperation");
        RUNS.run("8: two rolls that take nothing",
                "players 1", "begin 0 0", "bowl 0: 18x0 0", "isDone 0 = false", "bowl 0: 0", "isDone 0 = true");
        RUNS.run("8: fouls set nothing up again",
                "players 1", "begin 0 0", "bowl 0: 9x10 10f", "standing 0 = 10", "isDone 0 = false", "bowl 0: 10f",
                "standing 0 = 0", "isDone 0 = true");
        RUNS.run("8: a foul, then all 10, then a third roll",
                "players 1", "begin 0 0", "bowl 0: 9x10 10f 10", "standing 0 = 10", "isDone 0 = false",
                "bowl 0: 10", "isDone 0 = true", "score 0 9 = 270");
        RUNS.run("8: a strike, then two fouls",
                "players 1", "begin 0 0", "bowl 0: 9x10 10 10f", "isDone 0 = false", "standing 0 = 10",
                "bowl 0: 10f", "isDone 0 = true");
    }

    private static void gameIsDone() {
        RUNS.run("6: a game that is done has 11 rolls at least",
                "players 1", "begin 0 0", "rolls 0 = 0", "bowl 0: 10", "rolls 0 = 1", "bowl 0: 8x10 0",
                "isDone 0 = false", "rolls 0 = 10", "bowl 0: 0", "isDone 0 = true", "rolls 0 = 11",
                "roll 0 0 false ! UnsupportedOperation", "roll 0 0 true ! UnsupportedOperation", "rolls 0 = 11");
        RUNS.run("6: and 21 at most",
                "players 1", "begin 0 0", "bowl 0: 18x4 0", "isDone 0 = false", "bowl 0: 10", "rolls 0 = 20",
                "isDone 0 = false", "bowl 0: 0", "isDone 0 = true", "rolls 0 = 21",
                "roll 0 0 false ! UnsupportedOperation");
        RUNS.run("8: The game is done when the last frame is over: not by the frame next to it",
                "players 1", "begin 0 0", "isDone 0 = false", "bowl 0: 18x0", "isDone 0 = false", "standing 0 = 10",
                "bowl 0: 0", "isDone 0 = false", "bowl 0: 0", "isDone 0 = true");
        RUNS.run("8: by each game alone",
                "players 1", "scored 0 0 9", "begin 0 0", "isDone 0 = true", "isDone 1 = false", "roll 1 3 false = 0",
                "standing 0 = 0", "standing 1 = 7");
    }

    private static void strikesAndSpares() {
        RUNS.run("10: A frame is a strike if its first roll took all 10",
                "players 1", "begin 0 0", "frame 0 0 = -", "bowl 0: 10", "frame 0 0 = x", "bowl 0: 9", "frame 0 1 = -",
                "bowl 0: 0", "frame 0 1 = o", "bowl 0: 10f", "frame 0 2 = -", "bowl 0: 3", "frame 0 2 = o");
        RUNS.run("10: a spare if its second one took the last of the first 10",
                "players 1", "begin 0 0", "bowl 0: 9 1", "frame 0 0 = /", "bowl 0: 0 10", "frame 0 1 = /",
                "bowl 0: 1 8", "frame 0 2 = o", "bowl 0: 10f 10", "frame 0 3 = /", "bowl 0: 0 10f", "frame 0 4 = o",
                "bowl 0: 9 1f", "frame 0 5 = o");
        RUNS.run("10: '-' another one that is not over",
                "players 1", "begin 0 0", "frame 0 0 = -", "frame 0 9 = -", "bowl 0: 0", "frame 0 0 = -",
                "bowl 0: 0", "frame 0 0 = o", "frame 0 1 = -", "bowl 0: 8x10 9", "frame 0 9 = -", "bowl 0: 0",
                "frame 0 9 = o");
        RUNS.run("10: a strike in the last frame, over or not",
                "players 1", "begin 0 0", "bowl 0: 9x10", "frame 0 9 = -", "bowl 0: 10", "frame 0 9 = x", "bowl 0: 0",
                "frame 0 9 = x", "bowl 0: 10", "frame 0 9 = x");
        RUNS.run("10: a spare in the last frame, over or not",
                "players 1", "begin 0 0", "bowl 0: 9x10 0", "frame 0 9 = -", "bowl 0: 10", "frame 0 9 = /",
                "bowl 0: 10", "frame 0 9 = /");
        RUNS.run("10: the last of the first 10: a strike and a second ten are no spare",
                "players 1", "begin 0 0", "bowl 0: 9x0 9x0 10 10", "frame 0 9 = x", "bowl 0: 10", "frame 0 9 = x");
        RUNS.run("10: the second and third roll of the last frame make no spare",
                "players 1", "begin 0 0", "bowl 0: 9x10 10 4 6", "frame 0 9 = x");
    }

    private static void whatFramesCount() {
        RUNS.run("9: for a strike also what the next two rolls took, neither one nor three",
                "players 1", "begin 0 0", "bowl 0: 10 1 2 4 0", "score 0 0 = 13", "score 0 1 = 16", "score 0 2 = 20");
        RUNS.run("9: the next two rolls of two frames",
                "players 1", "begin 0 0", "bowl 0: 10 10 1 2", "score 0 0 = 21", "score 0 1 = 34", "score 0 2 = 37");
        RUNS.run("9: for a spare the next one, not two",
                "players 1", "begin 0 0", "bowl 0: 4 6 1 2", "score 0 0 = 11", "score 0 1 = 14");
        RUNS.run("9: for another one nothing more",
                "players 1", "begin 0 0", "bowl 0: 4 5 10 1 2", "score 0 0 = 9", "score 0 1 = 22");
        RUNS.run("9: 0 at least", "players 1", "scored 0 0 0", "score 0 0 = 0", "score 0 9 = 0");
        RUNS.run("9: 300 at most", "players 1", "perfect 0 0", "score 0 0 = 30", "score 0 8 = 270", "score 0 9 = 300");
    }

    private static void lastFrameCounts() {
        RUNS.run("9: the last frame counts what its rolls took: a strike",
                "players 1", "begin 0 0", "bowl 0: 18x0 10 1 2", "score 0 8 = 0", "score 0 9 = 13");
        RUNS.run("9: the last frame counts what its rolls took: a spare",
                "players 1", "begin 0 0", "bowl 0: 18x0 4 6 3", "score 0 9 = 13");
        RUNS.run("9: the last frame counts what its rolls took: three strikes",
                "players 1", "begin 0 0", "bowl 0: 18x0 10 10 10", "score 0 9 = 30");
        RUNS.run("9: the frame ahead of it is a strike: two rolls of three",
                "players 1", "begin 0 0", "bowl 0: 16x0 10 10 9 1", "score 0 8 = 29", "score 0 9 = 49");
        RUNS.run("9: the frame ahead of it is a spare: one roll of three",
                "players 1", "begin 0 0", "bowl 0: 16x0 5 5 10 9 1", "score 0 8 = 20", "score 0 9 = 40");
        RUNS.run("9: two frames ahead, a strike: one roll of three",
                "players 1", "begin 0 0", "bowl 0: 14x0 10 10 9 1 8", "score 0 7 = 29", "score 0 8 = 49",
                "score 0 9 = 67");
    }

    private static void decided() {
        RUNS.run("9: NoSuchElementException if it is not decided: another one by its second roll",
                "players 1", "begin 0 0", "score 0 0 ! NoSuchElement", "bowl 0: 3", "score 0 0 ! NoSuchElement",
                "bowl 0: 4", "score 0 0 = 7", "score 0 1 ! NoSuchElement", "score 0 9 ! NoSuchElement");
        RUNS.run("9: not decided: a spare by the next roll",
                "players 1", "begin 0 0", "bowl 0: 3 7", "score 0 0 ! NoSuchElement", "bowl 0: 4", "score 0 0 = 14",
                "score 0 1 ! NoSuchElement");
        RUNS.run("9: not decided: a strike by the next two rolls",
                "players 1", "begin 0 0", "bowl 0: 10", "score 0 0 ! NoSuchElement", "bowl 0: 3",
                "score 0 0 ! NoSuchElement", "bowl 0: 4", "score 0 0 = 17", "score 0 1 = 24",
                "score 0 2 ! NoSuchElement");
        RUNS.run("9: all rolls that count for it and those ahead of it",
                "players 1", "begin 0 0", "bowl 0: 10 10", "score 0 0 ! NoSuchElement", "score 0 1 ! NoSuchElement",
                "bowl 0: 10", "score 0 0 = 30", "score 0 1 ! NoSuchElement", "score 0 2 ! NoSuchElement",
                "bowl 0: 0f", "score 0 1 = 50", "score 0 2 ! NoSuchElement", "bowl 0: 0", "score 0 2 = 60",
                "score 0 3 = 60");
        RUNS.run("9: not decided: the last frame by its third roll",
                "players 1", "begin 0 0", "bowl 0: 9x10", "score 0 6 = 210", "score 0 7 ! NoSuchElement", "bowl 0: 10",
                "score 0 7 = 240", "score 0 8 ! NoSuchElement", "bowl 0: 9", "score 0 8 = 269",
                "score 0 9 ! NoSuchElement", "bowl 0: 1", "score 0 9 = 289");
        RUNS.run("9: not decided: the last frame by its second roll",
                "players 1", "begin 0 0", "bowl 0: 18x0", "score 0 8 = 0", "score 0 9 ! NoSuchElement", "bowl 0: 9",
                "score 0 9 ! NoSuchElement", "bowl 0: 0", "score 0 9 = 9");
        RUNS.run("9: not decided any more, and again, by corrections",
                "players 1", "begin 0 0", "bowl 0: 3 4", "score 0 0 = 7", "fix 0 1 7 false = 1",
                "score 0 0 ! NoSuchElement", "fix 0 0 10 false = 2", "score 0 0 ! NoSuchElement",
                "fix 0 1 6 false = 2", "score 0 0 ! NoSuchElement", "fix 0 0 4 false = 1", "score 0 0 ! NoSuchElement",
                "fix 0 1 5 false = 1", "score 0 0 = 9");
    }

    private static void fixEachPair() {
        for (int second = 0; second <= 10; second++) {
            int most = 10 - second;
            String tooMany = most >= 9 ? "11" : "" + (most + 1);
            RUNS.run("5: IllegalArgumentException if some roll would have more pins than stand",
                    "players 1", "begin 0 0", "bowl 0: 0 " + second + " 3 4", "fix 0 0 -1 false ! IllegalArgument",
                    "fix 0 0 " + tooMany + " false ! IllegalArgument", "frame 0 0 = " + (second == 10 ? "/" : "o"),
                    "fix 0 0 " + most + " false",
                    "frame 0 0 = " + (most == 10 ? "x" : "/"), "fix 0 0 11 false ! IllegalArgument");
        }
        for (int first = 0; first <= 9; first++) {
            int most = 10 - first;
            RUNS.run("5: the corrected roll itself has no more pins than stand",
                    "players 1", "begin 0 0", "bowl 0: " + first + " 0", "fix 0 1 -1 false ! IllegalArgument",
                    "fix 0 1 " + (most + 1) + " false ! IllegalArgument", "frame 0 0 = o",
                    "fix 0 1 " + most + " false = 1", "frame 0 0 = /", "fix 0 1 0 false = 1",
                    "score 0 0 = " + first);
        }
    }

    private static void fixedRollAndLaterRolls() {
        RUNS.run("5: IndexOutOfBoundsException if it has no such roll",
                "players 1", "begin 0 0", "fix 0 0 0 false ! IndexOutOfBounds", "fix 0 -1 0 false ! IndexOutOfBounds",
                "bowl 0: 3", "fix 0 0 4 false = 1", "fix 0 1 4 false ! IndexOutOfBounds", "bowl 0: 3",
                "fix 0 1 4 false = 1", "fix 0 2 4 false ! IndexOutOfBounds", "fix 0 -1 4 false ! IndexOutOfBounds",
                "fix 0 -2147483648 0 false ! IndexOutOfBounds", "fix 0 2147483647 0 false ! IndexOutOfBounds");
        RUNS.run("5: the last one of 21 rolls",
                "players 1", "begin 0 0", "bowl 0: 21x5", "fix 0 20 10 false = 10", "score 0 9 = 155",
                "fix 0 21 0 false ! IndexOutOfBounds", "fix 0 20 11 false ! IllegalArgument",
                "fix 0 20 0 false = 10", "score 0 9 = 145", "fix 0 0 0 false = 10", "score 0 9 = 135");
        RUNS.run("5: pins at the ends of int",
                "players 1", "begin 0 0", "bowl 0: 3 4", "fix 0 0 2147483647 false ! IllegalArgument",
                "fix 0 1 -2147483648 false ! IllegalArgument", "fix 0 1 2147483647 true ! IllegalArgument",
                "fix 0 0 -2147483648 true ! IllegalArgument");
        RUNS.run("5: some roll: the last one of all has more than stand",
                "players 1", "begin 0 0", "bowl 0: 10 3 4 2 3 8", "fix 0 0 0 false ! IllegalArgument",
                "score 0 1 = 24", "fix 0 5 7 false = 4", "fix 0 0 0 false = 3", "frame 0 2 = /",
                "fix 0 5 8 false ! IllegalArgument");
    }

    private static void fixReadsAgain() {
        RUNS.run("5: all rolls of the game are read again from the first one on",
                "players 1", "begin 0 0", "bowl 0: 10 3 4 5 4 1", "score 0 1 = 24", "standing 0 = 9",
                "fix 0 0 2 false = 3", "score 0 0 = 5", "score 0 1 = 14", "score 0 2 = 19", "standing 0 = 10",
                "frame 0 3 = -", "roll 0 9 false = 3", "fix 0 0 10 false = 4", "frame 0 3 = /", "standing 0 = 10");
        RUNS.run("5: a correction to the same changes nothing",
                "players 1", "begin 0 0", "bowl 0: 10 3 4f", "fix 0 0 10 false = 2", "fix 0 2 4 true = 2",
                "score 0 1 = 16", "rolls 0 = 3", "standing 0 = 10");
        RUNS.run("5: a game that is done is not done any more",
                "players 1", "perfect 0 0", "pins = 300", "fix 0 0 9 true = 10", "isDone 0 = false", "pins = 0",
                "standing 0 = 10", "frame 0 0 = /", "rolls 0 = 12", "roll 0 7 false = 9", "isDone 0 = true",
                "pins = 287");
        RUNS.run("5: a correction of one game leaves another one",
                "players 1", "scored 0 0 9", "scored 0 0 18", "fix 0 0 8 false = 10", "score 0 9 = 8",
                "score 1 9 = 18");
    }

    private static void fixToItsEnd() {
        RUNS.run("5: UnsupportedOperationException if the game would be done ahead of its last roll",
                "players 1", "begin 0 0", "bowl 0: 20x0", "fix 0 0 10 false ! UnsupportedOperation",
                "isDone 0 = true", "frame 0 0 = o", "fix 0 17 10 false = 10", "fix 0 17 0 false = 10",
                "fix 0 16 10 false ! UnsupportedOperation", "score 0 9 = 0");
        RUNS.run("5: by its last roll the game may be done",
                "players 1", "begin 0 0", "bowl 0: 19x0", "isDone 0 = false", "fix 0 0 10 false = 10",
                "isDone 0 = true", "score 0 9 = 10", "fix 0 1 10 false ! UnsupportedOperation",
                "fix 0 0 0 false = 10", "isDone 0 = false", "frame 0 9 = -", "fix 0 16 10 false = 10",
                "isDone 0 = true", "fix 0 0 10 false = 10", "frame 0 8 = /", "isDone 0 = true", "score 0 9 = 20");
    }

    private static void fixInLastFrame() {
        RUNS.run("5: a third roll is left, but the last frame would be over by the second one",
                "players 1", "begin 0 0", "bowl 0: 9x10 4 6 0", "fix 0 10 5 false ! UnsupportedOperation",
                "fix 0 10 6 true ! UnsupportedOperation", "fix 0 9 3 false ! UnsupportedOperation",
                "fix 0 9 4 true ! UnsupportedOperation", "frame 0 9 = /", "score 0 9 = 264",
                "fix 0 9 5 false ! IllegalArgument", "fix 0 9 10 false = 10", "frame 0 9 = x", "score 0 9 = 282");
        RUNS.run("5: the third roll after a strike has what the second one leaves",
                "players 1", "begin 0 0", "bowl 0: 9x10 10 4 6", "fix 0 10 5 false ! IllegalArgument",
                "fix 0 11 7 false ! IllegalArgument", "fix 0 10 3 false = 10", "fix 0 11 7 false = 10",
                "fix 0 10 10 false = 10", "fix 0 11 10 false = 10", "fix 0 11 11 false ! IllegalArgument",
                "fix 0 10 9 false ! IllegalArgument", "score 0 9 = 300");
        RUNS.run("5: two rolls are left over",
                "players 1", "begin 0 0", "bowl 0: 18x0 0 10 0",
                "fix 0 0 10 false ! UnsupportedOperation", "fix 0 19 9 false ! UnsupportedOperation",
                "fix 0 19 10 true ! UnsupportedOperation", "frame 0 9 = /", "rolls 0 = 21");
        RUNS.run("5: the rolls of other frames come into the last one",
                "players 1", "begin 0 0", "bowl 0: 8x10 0 10 0 0", "isDone 0 = true", "fix 0 8 10 false = 10",
                "isDone 0 = true", "frame 0 9 = x", "frame 0 8 = x", "score 0 9 = 270");
    }

    private static void fixCountsFrames() {
        RUNS.run("5: Returns how many frames have a roll then",
                "players 1", "begin 0 0", "bowl 0: 3", "fix 0 0 4 false = 1", "fix 0 0 10 false = 1", "bowl 0: 3",
                "fix 0 1 4 false = 2", "fix 0 0 5 false = 1", "bowl 0: 1", "fix 0 0 6 false = 2",
                "fix 0 0 10 false = 2");
        RUNS.run("5: 10 frames at most",
                "players 1", "begin 0 0", "bowl 0: 9x10", "fix 0 8 10 false = 9", "bowl 0: 10", "fix 0 9 9 false = 10",
                "fix 0 9 10 false = 10", "bowl 0: 10 10", "fix 0 11 0 false = 10", "fix 0 8 0 false = 10",
                "fix 0 7 0 false = 10");
    }

    private static void fixFouls() {
        RUNS.run("5: how many pins it takes, or would take without a foul, 0 at least and no more than stand",
                "players 1", "begin 0 0", "bowl 0: 4 5", "fix 0 1 7 true ! IllegalArgument",
                "fix 0 1 -1 true ! IllegalArgument", "fix 0 1 6 true = 1", "score 0 0 = 4", "frame 0 0 = o",
                "fix 0 0 11 true ! IllegalArgument", "fix 0 0 10 true = 1", "score 0 0 = 0", "frame 0 0 = o",
                "standing 0 = 10");
        RUNS.run("5: whether it is a foul",
                "players 1", "begin 0 0", "bowl 0: 10 10 10", "fix 0 0 10 true = 2", "frame 0 0 = /",
                "score 0 0 = 20", "fix 0 0 10 false = 3", "score 0 0 = 30", "fix 0 2 10 true = 3", "score 0 0 = 20",
                "frame 0 2 = -");
        RUNS.run("5: some roll would have more pins than stand: also one that is a foul",
                "players 1", "begin 0 0", "bowl 0: 2 5f", "fix 0 0 6 false ! IllegalArgument", "score 0 0 = 2",
                "fix 0 0 5 false = 1", "score 0 0 = 5", "fix 0 0 6 true = 1", "score 0 0 = 0");
    }
}
