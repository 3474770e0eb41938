/** The boundaries that the document names for the pot and the figures, promises 28 to 34. */
public final class PotEdgesTest {
    private static final Checks CHECKS = new Checks();
    private static final Runs RUNS = new Runs(CHECKS);

    public static void main(String[] args) {
        amounts();
        noSuchPlayer();
        triedFrames();
        withARoll();
        strikesAlone();
        wholePot();
        triedOnce();
        notCorrected();
        purses();
        pins();
        strikeShare();
        strikesInLastFrame();
        meanScore();
        sound();
        CHECKS.end();
    }

    private static void amounts() {
        RUNS.run("28: the amount, 1 to 99: IllegalArgumentException if the amount is out of range",
                "players 1", "pay 0 0 ! IllegalArgument", "pay 0 1 = 1", "pay 0 99 = 100",
                "pay 0 100 ! IllegalArgument",
                "pay 0 -1 ! IllegalArgument", "pay 0 2147483647 ! IllegalArgument",
                "pay 0 -2147483648 ! IllegalArgument", "pay 0 1 = 101", "purse 0 = -101");
        RUNS.run("28: Returns what is in the pot then: of all players",
                "players 8", "pay 0 1 = 1", "pay 7 2 = 3", "pay 3 99 = 102", "purse 0 = -1", "purse 7 = -2",
                "purse 3 = -99", "purse 1 = 0");
    }

    private static void noSuchPlayer() {
        RUNS.run("28: IndexOutOfBoundsException if there is no such player",
                "pay 0 1 ! IndexOutOfBounds", "players 2", "pay -1 1 ! IndexOutOfBounds", "pay 2 1 ! IndexOutOfBounds",
                "pay 2147483647 1 ! IndexOutOfBounds", "pay -2147483648 1 ! IndexOutOfBounds", "pay 1 1 = 1",
                "pay 0 1 = 2");
    }

    private static void triedFrames() {
        RUNS.run("29: the frame, 0 to 9: IllegalArgumentException if there is no such frame",
                "players 1", "pay 0 9", "perfect 0 0", "tries 0 -1 ! IllegalArgument", "tries 0 10 ! IllegalArgument",
                "tries 0 2147483647 ! IllegalArgument", "tries 0 -2147483648 ! IllegalArgument", "tries 0 9 = 9",
                "pay 0 8", "tries 0 0 = 8");
    }

    private static void withARoll() {
        RUNS.run("29: UnsupportedOperationException if it has no roll",
                "players 1", "pay 0 9", "begin 0 0", "tries 0 0 ! UnsupportedOperation",
                "tries 0 9 ! UnsupportedOperation", "bowl 0: 3", "tries 0 1 ! UnsupportedOperation", "tries 0 0 = 0",
                "bowl 0: 4", "tries 0 1 ! UnsupportedOperation", "bowl 0: 10", "tries 0 1 = 9",
                "tries 0 2 ! UnsupportedOperation", "bowl 0: 0f", "tries 0 2 = 0");
        RUNS.run("29: the last frame has no roll, and one",
                "players 1", "pay 0 9", "begin 0 0", "bowl 0: 9x10", "tries 0 9 ! UnsupportedOperation", "bowl 0: 10",
                "tries 0 9 = 9");
        RUNS.run("29: a frame that has no roll any more",
                "players 1", "pay 0 9", "begin 0 0", "bowl 0: 10 3", "fix 0 0 5 false = 1",
                "tries 0 1 ! UnsupportedOperation", "fix 0 0 10 false = 2", "tries 0 1 = 0", "tries 0 0 = 9");
    }

    private static void strikesAlone() {
        RUNS.run("29: pays the whole pot to its player, if this is a strike; otherwise it stays",
                "players 1", "pay 0 9", "begin 0 0", "bowl 0: 9 1 0 10 4 5 10f 10 10", "tries 0 0 = 0", "tries 0 1 = 0",
                "tries 0 2 = 0", "tries 0 3 = 0", "pay 0 1 = 10", "tries 0 4 = 10", "pay 0 1 = 1");
        RUNS.run("29: in the last frame the first roll alone makes a strike",
                "players 1", "pay 0 9", "begin 0 0", "bowl 0: 9x10 0 10 10", "tries 0 9 = 0", "begin 0 0",
                "bowl 1: 9x10 10f 10", "tries 1 9 = 0", "begin 0 0", "bowl 2: 9x10 10 0", "tries 2 9 = 9");
    }

    private static void wholePot() {
        RUNS.run("29: Returns what is paid out: the whole pot, of all who paid, to the player of the game",
                "players 3", "pay 0 99 = 99", "pay 1 99 = 198", "begin 2 0", "bowl 0: 10 10", "tries 0 0 = 198",
                "purse 2 = 198", "purse 0 = -99", "purse 1 = -99", "tries 0 1 = 0", "purse 2 = 198", "pay 2 1 = 1",
                "purse 2 = 197");
    }

    private static void triedOnce() {
        RUNS.run("29: A frame is tried once, by its number: UnsupportedOperationException if it was tried",
                "players 1", "pay 0 9", "begin 0 0", "bowl 0: 10 3", "tries 0 0 = 9",
                "tries 0 0 ! UnsupportedOperation",
                "pay 0 8", "tries 0 0 ! UnsupportedOperation", "tries 0 1 = 0", "tries 0 1 ! UnsupportedOperation",
                "bowl 0: 4", "tries 0 1 ! UnsupportedOperation", "begin 0 0", "bowl 1: 10", "tries 1 0 = 8",
                "tries 1 0 ! UnsupportedOperation");
        RUNS.run("29: whatever rolls it has later",
                "players 1", "pay 0 9", "begin 0 0", "bowl 0: 3", "tries 0 0 = 0", "fix 0 0 10 false = 1",
                "tries 0 0 ! UnsupportedOperation", "bowl 0: 10", "fix 0 0 0 false = 1",
                "tries 0 0 ! UnsupportedOperation", "tries 0 1 ! UnsupportedOperation", "bowl 0: 10", "tries 0 1 = 9",
                "fix 0 0 10 false = 3", "tries 0 1 ! UnsupportedOperation", "tries 0 2 = 0");
        RUNS.run("29: all frames of a game, each once",
                "players 1", "pay 0 9", "perfect 0 0", "tries 0 9 = 9", "tries 0 8 = 0", "tries 0 7 = 0",
                "tries 0 6 = 0",
                "tries 0 5 = 0", "tries 0 4 = 0", "tries 0 3 = 0", "tries 0 2 = 0", "tries 0 1 = 0", "tries 0 0 = 0",
                "tries 0 9 ! UnsupportedOperation", "tries 0 0 ! UnsupportedOperation");
    }

    private static void notCorrected() {
        RUNS.run("29: What was paid out is not corrected",
                "players 2", "pay 1 9", "begin 0 0", "bowl 0: 10 3", "tries 0 0 = 9", "fix 0 0 9 true = 1",
                "frame 0 0 = o", "purse 0 = 9", "pay 1 1 = 1", "isSound = true");
        RUNS.run("29: nor is what was not paid out",
                "players 2", "pay 1 9", "begin 0 0", "bowl 0: 9", "tries 0 0 = 0", "fix 0 0 10 false = 1",
                "frame 0 0 = x", "purse 0 = 0", "pay 1 1 = 10", "isSound = true");
    }

    private static void purses() {
        RUNS.run("30: Returns what a player got from the pot, less what the player paid",
                "players 2", "purse 0 = 0", "purse 1 = 0", "pay 0 5", "purse 0 = -5", "begin 0 0", "bowl 0: 10 10",
                "tries 0 0 = 5", "purse 0 = 0", "pay 1 7", "tries 0 1 = 7", "purse 0 = 7", "purse 1 = -7");
    }

    private static void pins() {
        RUNS.run("31: Returns the sum of the scores of all games that are done",
                "pins = 0", "players 2", "pins = 0", "begin 0 0", "pins = 0", "bowl 0: 10 3 4", "pins = 0",
                "scored 1 19 9", "pins = 9", "perfect 0 0", "pins = 309", "scored 0 0 0", "pins = 309",
                "fix 1 0 8 false = 10", "pins = 308", "fix 2 11 9 false = 10", "pins = 307", "fix 2 0 0 false = 10",
                "pins = 8");
    }

    private static void strikeShare() {
        RUNS.run("32: ArithmeticException if none is over",
                "strikeShare ! Arithmetic", "players 1", "strikeShare ! Arithmetic", "begin 0 0",
                "strikeShare ! Arithmetic", "bowl 0: 9", "strikeShare ! Arithmetic", "bowl 0: 0", "strikeShare = 0.0",
                "bowl 0: 10", "strikeShare = 0.5", "bowl 0: 9", "strikeShare = 0.5", "bowl 0: 1",
                "strikeShare = 0.33333334", "begin 0 5", "bowl 1: 10", "strikeShare = 0.5", "bowl 1: 10",
                "strikeShare = 0.6");
        RUNS.run("32: all frames that are over, after a correction",
                "players 1", "begin 0 0", "bowl 0: 10", "strikeShare = 1.0", "fix 0 0 9 false = 1",
                "strikeShare ! Arithmetic", "fix 0 0 10 true = 1", "strikeShare ! Arithmetic", "fix 0 0 10 false = 1",
                "strikeShare = 1.0");
    }

    private static void strikesInLastFrame() {
        RUNS.run("32: the last frame is one frame, when it is over",
                "players 1", "begin 0 0", "bowl 0: 18x0 10", "strikeShare = 0.0", "bowl 0: 10", "strikeShare = 0.0",
                "bowl 0: 10", "strikeShare = 0.1", "fix 0 18 0 false = 10", "strikeShare = 0.0");
        RUNS.run("32: ten strikes of ten frames", "players 1", "perfect 0 0", "strikeShare = 1.0",
                "fix 0 11 0 false = 10", "strikeShare = 1.0", "fix 0 10 0 false = 10", "strikeShare = 1.0");
    }

    private static void meanScore() {
        RUNS.run("33: ArithmeticException if none is done",
                "meanScore ! Arithmetic", "players 2", "meanScore ! Arithmetic", "begin 0 0", "meanScore ! Arithmetic",
                "bowl 0: 19x0", "meanScore ! Arithmetic", "bowl 0: 0", "meanScore = 0.0", "scored 1 19 1",
                "meanScore = 0.5", "scored 1 19 1", "meanScore = 0.6666666666666666", "fix 0 17 10 false = 10",
                "meanScore = 4.0", "fix 0 17 0 false = 10", "fix 0 0 1 false = 10", "meanScore = 1.0");
        RUNS.run("33: a game that is done no more does not count",
                "players 1", "perfect 0 0", "meanScore = 300.0", "scored 0 0 0", "meanScore = 150.0",
                "fix 0 0 0 false = 10", "meanScore = 0.0");
    }

    private static void sound() {
        RUNS.run("34: scores that are found roll by roll from the last frame back: each end of a game",
                "players 1", "begin 0 0", "bowl 0: 8x10", "isSound = true", "bowl 0: 10", "isSound = true",
                "bowl 0: 10",
                "isSound = true", "bowl 0: 10", "isSound = true", "bowl 0: 10", "isSound = true",
                "fix 0 11 3 false = 10",
                "isSound = true", "begin 0 0", "bowl 1: 16x0 4 6", "isSound = true", "bowl 1: 4", "isSound = true",
                "bowl 1: 6", "isSound = true", "bowl 1: 10", "isSound = true", "begin 0 0", "bowl 2: 16x0 10 9",
                "isSound = true", "bowl 2: 0", "isSound = true", "begin 0 0", "bowl 3: 16x0 9 0f 10f 9f",
                "isSound = true");
        RUNS.run("34: Returns whether this holds: a hall with all there may be",
                "isSound = true", "players 8", "isSound = true", "team 0 1", "team 2 3", "team 4 5", "team 6 7",
                "isSound = true", "match 0 1 0", "match 2 3 0", "match 0 2 1", "isSound = true", "scored 0 0 45",
                "isSound = true", "perfect 7 0", "isSound = true", "begin 3 1", "bowl 2: 10", "isSound = true",
                "bowl 2: 10", "isSound = true", "bowl 2: 4 6", "isSound = true", "pay 1 99", "isSound = true",
                "tries 2 0 = 99", "isSound = true", "fix 2 0 0 false = 2", "isSound = true", "tries 2 1 = 0",
                "isSound = true", "setHandicap 100 300 300", "isSound = true");
    }
}
