import java.lang.reflect.Field;
import java.util.List;

/** Promises 31 to 34. */
public final class FiguresTest {
    private static final Checks CHECKS = new Checks();

    public static void main(String[] args) throws ReflectiveOperationException {
        pins();
        strikeShare();
        meanScore();
        isSound();
        isUnsound();
        CHECKS.end();
    }

    private static void pins() {
        PinHall hall = Halls.withPlayers(2);
        CHECKS.due("31: none", hall.pins(), 0L);
        int game = hall.begin(0, 0);
        Halls.rollAll(hall, game, 3, 4);
        CHECKS.due("31: not done", hall.pins(), 0L);
        Halls.perfect(hall, 0, 0);
        Halls.scoring(hall, 1, 5, 45);
        CHECKS.due("31: all players, all weeks", hall.pins(), 345L);
        hall.fix(1, 11, 10, true);
        CHECKS.due("31: after a correction", hall.pins(), 335L);
        PinHall first = Halls.withPlayers(1);
        Halls.scoring(first, 0, 0, 45);
        CHECKS.due("31: the first game alone", first.pins(), 45L);
    }

    private static void strikeShare() {
        PinHall hall = Halls.withPlayers(2);
        CHECKS.refused("32: no game", ArithmeticException.class, hall::strikeShare);
        hall.begin(0, 0);
        hall.roll(0, 3, false);
        CHECKS.refused("32: none is over", ArithmeticException.class, hall::strikeShare);
        hall.roll(0, 7, false);
        CHECKS.due("32: a spare is none", hall.strikeShare(), 0f);
        hall.roll(0, 10, false);
        CHECKS.due("32: one of two", hall.strikeShare(), 0.5f);
        hall.roll(0, 2, false);
        CHECKS.due("32: not over", hall.strikeShare(), 0.5f);
        hall.begin(1, 3);
        Halls.rollAll(hall, 1, 1, 1);
        CHECKS.due("32: of all games", hall.strikeShare(), 1f / 3f);
        PinHall first = Halls.withPlayers(1);
        first.begin(0, 0);
        first.roll(0, 10, false);
        CHECKS.due("32: the first frame alone", first.strikeShare(), 1f);
        PinHall last = Halls.withPlayers(1);
        int game = last.begin(0, 0);
        Halls.rollAll(last, game, 0, 0, 0, 0, 0, 0, 0, 0, 0, 0, 0, 0, 0, 0, 0, 0, 0, 0, 10, 10);
        CHECKS.due("32: the last one is not over", last.strikeShare(), 0f);
        last.roll(game, 10, false);
        CHECKS.due("32: the last one is one strike", last.strikeShare(), 0.1f);
        last.fix(game, 18, 0, false);
        CHECKS.due("32: corrected to a spare", last.strikeShare(), 0f);
        int fouls = last.begin(0, 0);
        last.roll(fouls, 10, true);
        last.roll(fouls, 10, true);
        CHECKS.due("32: a foul is no strike", last.strikeShare(), 0f);
    }

    private static void meanScore() {
        PinHall hall = Halls.withPlayers(2);
        CHECKS.refused("33: none", ArithmeticException.class, hall::meanScore);
        hall.begin(0, 0);
        hall.roll(0, 3, false);
        CHECKS.refused("33: none is done", ArithmeticException.class, hall::meanScore);
        Halls.scoring(hall, 0, 0, 40);
        CHECKS.due("33: one", hall.meanScore(), 40.0);
        PinHall first = Halls.withPlayers(1);
        Halls.scoring(first, 0, 0, 41);
        CHECKS.due("33: the first game alone", first.meanScore(), 41.0);
        Halls.scoring(hall, 1, 1, 45);
        CHECKS.due("33: two", hall.meanScore(), 42.5);
        Halls.scoring(hall, 1, 1, 0);
        CHECKS.due("33: 0 is one too", hall.meanScore(), 85.0 / 3.0);
    }

    private static void isSound() {
        CHECKS.due("34: a new one", new PinHall().isSound(), true);
        PinHall hall = Halls.withPlayers(4);
        hall.team(0, 1);
        hall.team(2, 3);
        hall.match(0, 1, 0);
        CHECKS.due("34: a match", hall.isSound(), true);
        int game = hall.begin(0, 0);
        hall.pay(0, 4);
        for (int i = 0; i < 12; i++) {
            hall.roll(game, 10, false);
            CHECKS.due("34: after strike " + i, hall.isSound(), true);
        }
        int spare = hall.begin(1, 0);
        for (int i = 0; i < 21; i++) {
            hall.roll(spare, 5, false);
            CHECKS.due("34: after roll " + i + " of spares", hall.isSound(), true);
        }
        hall.tries(game, 0);
        CHECKS.due("34: paid out", hall.isSound(), true);
        for (int i = 0; i < 10; i++) {
            hall.fix(game, i, i % 2 == 0 ? 10 : 0, i % 2 != 0);
            CHECKS.due("34: after fix " + i, hall.isSound(), true);
        }
    }

    /** No call can make a hall unsound, so what it keeps is spoilt from outside. */
    private static void isUnsound() throws ReflectiveOperationException {
        for (int frame = 0; frame < 10; frame++) {
            PinHall hall = Halls.withPlayers(1);
            Halls.perfect(hall, 0, 0);
            int[] kept = (int[]) held(firstGame(hall), "kept").get(firstGame(hall));
            kept[frame]++;
            CHECKS.due("34: the score kept of frame " + frame, hall.isSound(), false);
            kept[frame]--;
            CHECKS.due("34: put right", hall.isSound(), true);
        }
        PinHall hall = Halls.withPlayers(1);
        hall.pay(0, 4);
        held(hall, "pot").setInt(hall, 5);
        CHECKS.due("34: the pot", hall.isSound(), false);
        PinHall rolled = Halls.withPlayers(1);
        Halls.level(rolled, 0, 0, 4);
        int[] told = (int[]) held(firstGame(rolled), "told").get(firstGame(rolled));
        told[7] = 3;
        CHECKS.due("34: a roll that the scores do not show", rolled.isSound(), false);
        PinHall open = Halls.withPlayers(1);
        open.begin(0, 0);
        open.roll(0, 10, false);
        Object game = firstGame(open);
        held(game, "decided").setInt(game, 1);
        CHECKS.due("34: a score that is not decided", open.isSound(), false);
    }

    private static Object firstGame(PinHall hall) throws ReflectiveOperationException {
        return ((List<?>) held(hall, "games").get(hall)).get(0);
    }

    private static Field held(Object holder, String name) throws ReflectiveOperationException {
        Field field = holder.getClass().getDeclaredField(name);
        field.setAccessible(true);
        return field;
    }
}
