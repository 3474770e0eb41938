/** Ways to bring a hall to a state that a test begins with. */
final class Halls {
    private Halls() {
    }

    static PinHall withPlayers(int count) {
        PinHall hall = new PinHall();
        for (int i = 0; i < count; i++) {
            hall.addPlayer();
        }
        return hall;
    }

    static void rollAll(PinHall hall, int game, int... pins) {
        for (int p : pins) {
            hall.roll(game, p, false);
        }
    }

    /** A game whose every roll takes as many pins, less than 5, so its score is 20 times as many. */
    static int level(PinHall hall, int player, int week, int pins) {
        int game = hall.begin(player, week);
        for (int i = 0; i < 20; i++) {
            hall.roll(game, pins, false);
        }
        return game;
    }

    /** A game of open frames with this score, from 0 to 90. */
    static int scoring(PinHall hall, int player, int week, int score) {
        int game = hall.begin(player, week);
        for (int frame = 0; frame < 10; frame++) {
            int taken = Math.min(9, Math.max(0, score - 9 * frame));
            hall.roll(game, taken, false);
            hall.roll(game, 0, false);
        }
        return game;
    }

    static int perfect(PinHall hall, int player, int week) {
        int game = hall.begin(player, week);
        for (int i = 0; i < 12; i++) {
            hall.roll(game, 10, false);
        }
        return game;
    }

    /** Darts as 10 times the part plus how often. */
    static void throwAll(PinHall hall, int leg, int... darts) {
        for (int d : darts) {
            hall.dart(leg, d / 10, d % 10);
        }
    }
}
