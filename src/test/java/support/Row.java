import java.util.ArrayList;
import java.util.List;

/**
 * One call as a test writes it down: "begin 0 19 = 1" is answered by 1, "begin 0 20 ! IllegalArgument"
 * throws IllegalArgumentException, and "begin 0 19" alone only must not throw. Some rows are short for
 * many calls: "players 2", "bowl 0: 9x10 4 6f" (an f is a foul), "throw 0: 203 2x1 (10 times the part plus
 * how often)", "scored 1 5 45" (a game of player 1 in week 5 with a score from 0 to 90) and "perfect 1 5".
 */
record Row(String name, String[] arguments, String due) {
    static final String THROWS = "throws.";
    static final String NO_EXCEPTION = "no exception";

    static List<Row> read(String... texts) {
        List<Row> all = new ArrayList<>();
        for (String text : texts) {
            addAll(all, text);
        }
        return all;
    }

    boolean isRefused() {
        return due.startsWith(THROWS);
    }

    @Override
    public String toString() {
        return name + "(" + String.join(", ", arguments) + ")";
    }

    private static void addAll(List<Row> all, String text) {
        String[] words = text.split("[ :]+");
        switch (words[0]) {
            case "players": repeat(all, Integer.parseInt(words[1]), "addPlayer"); break;
            case "bowl": bowl(all, words); break;
            case "throw": throwDarts(all, words); break;
            case "scored": scored(all, words); break;
            case "perfect":
                all.add(one("begin " + words[1] + " " + words[2]));
                repeat(all, 12, "roll " + (gamesOf(all) - 1) + " 10 false");
                break;
            default: all.add(one(text)); break;
        }
    }

    private static Row one(String text) {
        String due = NO_EXCEPTION;
        String call = text;
        int at = text.indexOf(" = ");
        if (at >= 0) {
            call = text.substring(0, at);
            due = text.substring(at + 3);
        }
        at = text.indexOf(" ! ");
        if (at >= 0) {
            call = text.substring(0, at);
            due = THROWS + text.substring(at + 3) + "Exception";
        }
        String[] words = call.split(" ");
        String[] arguments = new String[words.length - 1];
        System.arraycopy(words, 1, arguments, 0, arguments.length);
        return new Row(words[0], arguments, due);
    }

    private static void repeat(List<Row> all, int times, String text) {
        for (int i = 0; i < times; i++) {
            all.add(one(text));
        }
    }

    /** How many of "9x10", which is 9 times 10; once if no number is told. */
    private static int timesOf(String word) {
        return word.contains("x") ? Integer.parseInt(word.substring(0, word.indexOf('x'))) : 1;
    }

    private static String afterTimes(String word) {
        return word.substring(word.indexOf('x') + 1);
    }

    private static void bowl(List<Row> all, String[] words) {
        for (int i = 2; i < words.length; i++) {
            String pins = afterTimes(words[i]);
            String call = pins.endsWith("f") ? pins.replace("f", " true") : pins + " false";
            repeat(all, timesOf(words[i]), "roll " + words[1] + " " + call);
        }
    }

    private static void throwDarts(List<Row> all, String[] words) {
        for (int i = 2; i < words.length; i++) {
            int dart = Integer.parseInt(afterTimes(words[i]));
            repeat(all, timesOf(words[i]), "dart " + words[1] + " " + dart / 10 + " " + dart % 10);
        }
    }

    private static void scored(List<Row> all, String[] words) {
        int score = Integer.parseInt(words[3]);
        if (score < 0 || score > 90) {
            throw new IllegalArgumentException("frames without strikes and spares can't score " + score);
        }
        all.add(one("begin " + words[1] + " " + words[2]));
        int game = gamesOf(all) - 1;
        for (int frame = 0; frame < 10; frame++) {
            int taken = Math.min(9, Math.max(0, score - 9 * frame));
            all.add(one("roll " + game + " " + taken + " false"));
            all.add(one("roll " + game + " 0 false"));
        }
    }

    private static int gamesOf(List<Row> all) {
        int games = 0;
        for (Row r : all) {
            games += r.name.equals("begin") && !r.isRefused() ? 1 : 0;
        }
        return games;
    }
}
