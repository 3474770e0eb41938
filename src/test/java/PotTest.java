/** Promises 28 to 30. */
public final class PotTest {
    private static final Checks CHECKS = new Checks();

    public static void main(String[] args) {
        pay();
        tries();
        triesInLastFrame();
        triesRefused();
        triesAndCorrections();
        CHECKS.end();
    }

    private static void pay() {
        PinHall hall = Halls.withPlayers(2);
        CHECKS.refused("28: player -1", IndexOutOfBoundsException.class, () -> hall.pay(-1, 1));
        CHECKS.refused("28: player 2 ahead of amount", IndexOutOfBoundsException.class, () -> hall.pay(2, 0));
        CHECKS.refused("28: 0", IllegalArgumentException.class, () -> hall.pay(0, 0));
        CHECKS.refused("28: -1", IllegalArgumentException.class, () -> hall.pay(0, -1));
        CHECKS.refused("28: 100", IllegalArgumentException.class, () -> hall.pay(0, 100));
        CHECKS.refused("30: player -1", IndexOutOfBoundsException.class, () -> hall.purse(-1));
        CHECKS.refused("30: player 2", IndexOutOfBoundsException.class, () -> hall.purse(2));
        CHECKS.due("30: nothing paid", hall.purse(0), 0);
        CHECKS.due("28: 1", hall.pay(0, 1), 1);
        CHECKS.due("28: 99 more", hall.pay(1, 99), 100);
        CHECKS.due("28: again", hall.pay(0, 7), 107);
        CHECKS.due("30: paid 8", hall.purse(0), -8);
        CHECKS.due("30: paid 99", hall.purse(1), -99);
        CHECKS.due("34: sound", hall.isSound(), true);
    }

    private static void tries() {
        PinHall hall = Halls.withPlayers(2);
        hall.pay(0, 30);
        int game = hall.begin(1, 0);
        Halls.rollAll(hall, game, 4, 6, 10);
        CHECKS.due("29: a spare gets nothing", hall.tries(game, 0), 0);
        CHECKS.due("28: the pot is carried over", hall.pay(1, 5), 35);
        CHECKS.due("29: a strike gets the whole pot", hall.tries(game, 1), 35);
        CHECKS.due("30: the player of the game", hall.purse(1), 30);
        CHECKS.due("30: not who paid", hall.purse(0), -30);
        CHECKS.due("28: the pot was empty", hall.pay(0, 2), 2);
        CHECKS.refused("29: tried with a strike", UnsupportedOperationException.class, () -> hall.tries(game, 1));
        CHECKS.refused("29: tried without", UnsupportedOperationException.class, () -> hall.tries(game, 0));
        int other = hall.begin(0, 0);
        Halls.rollAll(hall, other, 10, 10);
        CHECKS.due("29: the same frame of another game", hall.tries(other, 0), 2);
        CHECKS.due("29: an empty pot", hall.tries(other, 1), 0);
        CHECKS.due("30: 2 of 32", hall.purse(0), -30);
        CHECKS.due("34: sound", hall.isSound(), true);
        hall.roll(game, 3, false);
        hall.pay(0, 1);
        CHECKS.due("29: a frame that is not over", hall.tries(game, 2), 0);
    }

    private static void triesInLastFrame() {
        PinHall hall = Halls.withPlayers(1);
        hall.pay(0, 9);
        int game = hall.begin(0, 0);
        Halls.rollAll(hall, game, 0, 0, 0, 0, 0, 0, 0, 0, 0, 0, 0, 0, 0, 0, 0, 0, 0, 0, 10);
        CHECKS.due("29: the last frame, not over", hall.tries(game, 9), 9);
        int spare = hall.begin(0, 0);
        hall.pay(0, 9);
        Halls.rollAll(hall, spare, 0, 0, 0, 0, 0, 0, 0, 0, 0, 0, 0, 0, 0, 0, 0, 0, 0, 0, 0, 10, 10);
        CHECKS.due("29: ten by the second and third roll is no strike", hall.tries(spare, 9), 0);
    }

    private static void triesRefused() {
        PinHall hall = Halls.withPlayers(1);
        hall.pay(0, 9);
        CHECKS.refused("29: no game ahead of frame", IndexOutOfBoundsException.class, () -> hall.tries(0, 10));
        CHECKS.refused("29: game -1", IndexOutOfBoundsException.class, () -> hall.tries(-1, 0));
        hall.begin(0, 0);
        CHECKS.refused("29: frame -1", IllegalArgumentException.class, () -> hall.tries(0, -1));
        CHECKS.refused("29: frame 10", IllegalArgumentException.class, () -> hall.tries(0, 10));
        CHECKS.refused("29: no roll", UnsupportedOperationException.class, () -> hall.tries(0, 0));
        hall.roll(0, 10, false);
        CHECKS.refused("29: the next frame has none", UnsupportedOperationException.class, () -> hall.tries(0, 1));
        CHECKS.due("29: a refused try is none", hall.tries(0, 0), 9);
    }

    private static void triesAndCorrections() {
        PinHall hall = Halls.withPlayers(1);
        hall.pay(0, 9);
        hall.begin(0, 0);
        Halls.rollAll(hall, 0, 10, 4);
        CHECKS.due("29: a strike", hall.tries(0, 0), 9);
        CHECKS.due("29: the next one", hall.tries(0, 1), 0);
        hall.fix(0, 0, 5, false);
        CHECKS.due("30: what was paid out is not corrected", hall.purse(0), 0);
        CHECKS.due("34: and the pot balances", hall.isSound(), true);
        hall.pay(0, 8);
        hall.fix(0, 0, 10, false);
        CHECKS.refused("29: frame 0 was tried", UnsupportedOperationException.class, () -> hall.tries(0, 0));
        CHECKS.refused("29: frame 1 too, though it had no roll", UnsupportedOperationException.class,
                () -> hall.tries(0, 1));
        hall.fix(0, 1, 10, false);
        CHECKS.refused("29: whatever rolls it has", UnsupportedOperationException.class, () -> hall.tries(0, 1));
        hall.roll(0, 10, true);
        hall.fix(0, 2, 10, false);
        CHECKS.due("29: a foul corrected to a strike", hall.tries(0, 2), 8);
    }
}
