import java.util.ArrayList;
import java.util.List;

/** What can be asked of a hall after some calls, and the uses that show what can't be asked. */
final class Looks {
    private final int players;
    private final int games;
    private final int legs;
    private final int teams;

    Looks(List<Row> ahead) {
        players = made("addPlayer", ahead);
        games = made("begin", ahead);
        legs = made("leg", ahead);
        teams = made("team", ahead);
    }

    private static int made(String name, List<Row> ahead) {
        int count = 0;
        for (Row row : ahead) {
            count += row.name().equals(name) && !row.isRefused() ? 1 : 0;
        }
        return count;
    }

    static List<List<Row>> inParts(List<Row> rows, int most) {
        List<List<Row>> parts = new ArrayList<>();
        for (int from = 0; from < rows.size(); from += most) {
            parts.add(rows.subList(from, Math.min(rows.size(), from + most)));
        }
        return parts;
    }

    /** Every question of what there is, and of the number after the last one. */
    List<Row> questions() {
        List<String> all = new ArrayList<>(List.of("pins", "strikeShare", "meanScore", "isSound"));
        for (int i = 0; i <= players; i++) {
            add(all, i, "average #", "handicap #", "purse #");
        }
        for (int i = 0; i <= games; i++) {
            add(all, i, "rolls #", "standing #", "isDone #");
            for (int frame = 0; frame < 10; frame++) {
                add(all, i, "score # " + frame, "frame # " + frame);
            }
        }
        for (int i = 0; i <= legs; i++) {
            add(all, i, "rest # 0", "rest # 1", "turnOf #", "winner #", "busts #", "wayOut #");
            add(all, i, "wayOutAt # 0", "wayOutAt # 1", "wayOutAt # 2");
        }
        for (int i = 0; i <= teams; i++) {
            add(all, i, "points #", "ranked #");
        }
        for (int week = 0; week < 20; week++) {
            add(all, week, "champion #");
        }
        return Row.read(all.toArray(new String[0]));
    }

    /** Calls that show the pot, the tries, the matches, the percent, the pins of fouls and the turns. */
    List<Row> uses() {
        List<String> all = new ArrayList<>(List.of("pay 0 1", "setHandicap 50 150 99"));
        for (int i = 0; i < legs; i++) {
            add(all, i, "dart # 0 1", "turnOf #", "dart # 1 1", "turnOf #", "dart # 0 1", "turnOf #");
            add(all, i, "dart # 20 3", "dart # 20 3", "dart # 20 3", "rest # 0", "rest # 1", "busts #");
            add(all, i, "fixDart # 0 1 1", "rest # 0", "rest # 1", "turnOf #");
        }
        for (int i = 0; i < games; i++) {
            add(all, i, "roll # 1 false", "fix # 0 0 false", "fix # 0 9 false", "fix # 0 10 false", "fix # 1 1 true");
            add(all, i, "rolls #", "standing #", "score # 0", "isDone #");
            for (int frame = 0; frame < 10; frame++) {
                add(all, i, "tries # " + frame);
            }
        }
        for (int one = 0; one < players; one++) {
            for (int other = one + 1; other < players; other++) {
                all.add("team " + one + " " + other);
            }
        }
        for (int week = 0; week < 20; week++) {
            all.add("match 0 1 " + week);
            all.add("match 2 3 " + week);
        }
        all.addAll(List.of("addPlayer", "begin 0 0", "leg 0 1 101 false", "pay 0 1", "isSound"));
        return Row.read(all.toArray(new String[0]));
    }

    private static void add(List<String> all, int number, String... rows) {
        for (String row : rows) {
            all.add(row.replace("#", "" + number));
        }
    }
}
