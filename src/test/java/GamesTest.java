import java.util.NoSuchElementException;

/** Promises 1 to 10. */
public final class GamesTest {
    private static final Checks CHECKS = new Checks();

    public static void main(String[] args) {
        newHall();
        addPlayer();
        begin();
        roll();
        rollInLastFrame();
        rollRefused();
        fix();
        fixRegroups();
        fixRefused();
        fixUndecides();
        standing();
        score();
        scoreOfLastFrame();
        frame();
        CHECKS.end();
    }

    private static void newHall() {
        PinHall hall = new PinHall();
        CHECKS.refused("1: no player", IndexOutOfBoundsException.class, () -> hall.purse(0));
        CHECKS.refused("1: no game", IndexOutOfBoundsException.class, () -> hall.rolls(0));
        CHECKS.refused("1: no leg", IndexOutOfBoundsException.class, () -> hall.busts(0));
        CHECKS.refused("1: no team", IndexOutOfBoundsException.class, () -> hall.points(0));
        CHECKS.due("1: no pins", hall.pins(), 0L);
        CHECKS.due("1: sound", hall.isSound(), true);
        hall.addPlayer();
        CHECKS.due("1: the pot is empty", hall.pay(0, 5), 5);
    }

    private static void addPlayer() {
        PinHall hall = new PinHall();
        for (int i = 0; i < 8; i++) {
            CHECKS.due("2: player " + i, hall.addPlayer(), i);
        }
        CHECKS.refused("2: a ninth player", IllegalStateException.class, hall::addPlayer);
        CHECKS.refused("2: the ninth is not there", IndexOutOfBoundsException.class, () -> hall.purse(8));
    }

    private static void begin() {
        PinHall hall = Halls.withPlayers(2);
        CHECKS.refused("3: player -1", IndexOutOfBoundsException.class, () -> hall.begin(-1, 0));
        CHECKS.refused("3: player 2 ahead of week", IndexOutOfBoundsException.class, () -> hall.begin(2, 20));
        CHECKS.refused("3: week -1", IllegalArgumentException.class, () -> hall.begin(0, -1));
        CHECKS.refused("3: week 20", IllegalArgumentException.class, () -> hall.begin(0, 20));
        CHECKS.refused("3: nothing has begun", IndexOutOfBoundsException.class, () -> hall.rolls(0));
        for (int i = 0; i < 30; i++) {
            CHECKS.due("3: game " + i, hall.begin(i % 2, i % 2 == 0 ? 0 : 19), i);
        }
        CHECKS.refused("3: a 31st game", IllegalStateException.class, () -> hall.begin(0, 0));
        CHECKS.refused("3: week ahead of games", IllegalArgumentException.class, () -> hall.begin(0, 20));
        CHECKS.refused("3: player ahead of games", IndexOutOfBoundsException.class, () -> hall.begin(2, 0));
        CHECKS.refused("3: no 31st game", IndexOutOfBoundsException.class, () -> hall.rolls(30));
    }

    private static void roll() {
        PinHall hall = Halls.withPlayers(1);
        hall.begin(0, 0);
        CHECKS.due("4: a strike is in frame 0", hall.roll(0, 10, false), 0);
        CHECKS.due("4: a first roll", hall.roll(0, 0, false), 1);
        CHECKS.due("4: a second roll, spare after nothing", hall.roll(0, 10, false), 1);
        CHECKS.due("4: a foul", hall.roll(0, 4, true), 2);
        CHECKS.due("4: a foul counts as a roll", hall.roll(0, 3, false), 2);
        CHECKS.due("4: then the next frame", hall.roll(0, 9, false), 3);
        CHECKS.due("4: second roll with a foul", hall.roll(0, 1, true), 3);
        CHECKS.due("4: next frame after the foul", hall.roll(0, 2, false), 4);
        CHECKS.due("6: each of them is a roll", hall.rolls(0), 8);
        CHECKS.due("4: a foul took none of the spare's bonus", hall.score(0, 1), 30);
        CHECKS.due("4: a foul counts 0 in its frame", hall.score(0, 2), 33);
        CHECKS.due("4: nor as a second roll", hall.score(0, 3), 42);
    }

    private static void rollInLastFrame() {
        PinHall hall = Halls.withPlayers(1);
        for (int game = 0; game < 6; game++) {
            hall.begin(0, 0);
            Halls.rollAll(hall, game, 10, 10, 10, 10, 10, 10, 10, 10, 10);
        }
        Halls.rollAll(hall, 0, 4, 5);
        CHECKS.due("8: over by two rolls", hall.isDone(0), true);
        Halls.rollAll(hall, 1, 4, 6);
        CHECKS.due("8: a spare has a third roll", hall.isDone(1), false);
        CHECKS.due("7: all are set up after a spare", hall.standing(1), 10);
        CHECKS.due("4: third roll is in frame 9", hall.roll(1, 10, false), 9);
        CHECKS.due("8: over by three rolls", hall.isDone(1), true);
        Halls.rollAll(hall, 2, 10);
        CHECKS.due("7: all are set up after a strike", hall.standing(2), 10);
        Halls.rollAll(hall, 2, 3);
        CHECKS.due("8: a strike has three rolls", hall.isDone(2), false);
        CHECKS.due("7: not set up again after 3", hall.standing(2), 7);
        CHECKS.refused("4: 8 of 7", IllegalArgumentException.class, () -> hall.roll(2, 8, false));
        Halls.rollAll(hall, 2, 7);
        CHECKS.due("8: over by the third one, though no pin stood", hall.isDone(2), true);
        CHECKS.due("7: none stand then", hall.standing(2), 0);
        hall.roll(3, 10, true);
        CHECKS.due("7: a foul takes none", hall.standing(3), 10);
        Halls.rollAll(hall, 3, 10);
        CHECKS.due("10: foul and ten is a spare", hall.frame(3, 9), '/');
        CHECKS.due("8: with a third roll", hall.isDone(3), false);
        Halls.rollAll(hall, 4, 10);
        hall.roll(4, 10, true);
        CHECKS.due("8: strike and foul has a third roll", hall.isDone(4), false);
        CHECKS.due("7: strike and foul leaves 10", hall.standing(4), 10);
        Halls.rollAll(hall, 5, 4);
        hall.roll(5, 6, true);
        CHECKS.due("8: a foul for the spare ends it", hall.isDone(5), true);
    }

    private static void rollRefused() {
        PinHall hall = Halls.withPlayers(1);
        CHECKS.refused("4: no game", IndexOutOfBoundsException.class, () -> hall.roll(0, 99, false));
        hall.begin(0, 0);
        CHECKS.refused("4: game -1", IndexOutOfBoundsException.class, () -> hall.roll(-1, 0, false));
        CHECKS.refused("4: game 1", IndexOutOfBoundsException.class, () -> hall.roll(1, 0, false));
        CHECKS.refused("4: -1 pins", IllegalArgumentException.class, () -> hall.roll(0, -1, false));
        CHECKS.refused("4: 11 pins", IllegalArgumentException.class, () -> hall.roll(0, 11, false));
        CHECKS.refused("4: 11 pins by a foul", IllegalArgumentException.class, () -> hall.roll(0, 11, true));
        CHECKS.refused("4: -1 pins by a foul", IllegalArgumentException.class, () -> hall.roll(0, -1, true));
        hall.roll(0, 4, false);
        CHECKS.refused("4: 7 of 6", IllegalArgumentException.class, () -> hall.roll(0, 7, false));
        CHECKS.refused("4: 7 of 6 by a foul", IllegalArgumentException.class, () -> hall.roll(0, 7, true));
        CHECKS.due("6: refused rolls are none", hall.rolls(0), 1);
        CHECKS.due("7: nor take any", hall.standing(0), 6);
        int done = Halls.perfect(hall, 0, 0);
        CHECKS.refused("4: done", UnsupportedOperationException.class, () -> hall.roll(done, 0, false));
        CHECKS.refused("4: done ahead of pins", UnsupportedOperationException.class, () -> hall.roll(done, -1, false));
        CHECKS.due("6: no roll after the last", hall.rolls(done), 12);
    }

    private static void fix() {
        PinHall hall = Halls.withPlayers(1);
        hall.begin(0, 0);
        Halls.rollAll(hall, 0, 3, 4, 5, 5, 2);
        CHECKS.due("5: three frames have a roll", hall.fix(0, 0, 6, false), 3);
        CHECKS.due("5: 6 and 4 is a spare", hall.frame(0, 0), '/');
        CHECKS.due("5: with its bonus", hall.score(0, 0), 15);
        CHECKS.due("5: which the next frame adds to", hall.score(0, 1), 27);
        CHECKS.due("5: a foul", hall.fix(0, 0, 6, true), 3);
        CHECKS.due("5: counts 0", hall.score(0, 0), 4);
        CHECKS.due("5: and is no spare", hall.frame(0, 0), 'o');
        CHECKS.due("5: last roll", hall.fix(0, 4, 10, false), 3);
        CHECKS.due("5: a strike now", hall.frame(0, 2), 'x');
        CHECKS.due("5: counts for the spare", hall.score(0, 1), 24);
        CHECKS.due("6: fixing adds no roll", hall.rolls(0), 5);
        CHECKS.due("5: a foul undone", hall.fix(0, 0, 3, false), 3);
        CHECKS.due("5: counts again", hall.score(0, 1), 27);
    }

    private static void fixRegroups() {
        PinHall hall = Halls.withPlayers(1);
        hall.begin(0, 0);
        Halls.rollAll(hall, 0, 10, 3, 4, 5, 4, 1);
        CHECKS.due("5: without the strike, the rolls pair anew", hall.fix(0, 0, 2, false), 3);
        CHECKS.due("5: 2 and 3", hall.score(0, 0), 5);
        CHECKS.due("5: 4 and 5", hall.score(0, 1), 14);
        CHECKS.due("5: 4 and 1", hall.score(0, 2), 19);
        CHECKS.due("7: the next frame", hall.standing(0), 10);
        CHECKS.due("4: is frame 3", hall.roll(0, 9, false), 3);
        CHECKS.due("5: with a strike, they pair as before", hall.fix(0, 0, 10, false), 4);
        CHECKS.due("5: the new roll with the one ahead of it", hall.frame(0, 3), '/');
        PinHall done = Halls.withPlayers(1);
        int game = Halls.perfect(done, 0, 0);
        CHECKS.due("5: a perfect game with a foul at its end", done.fix(game, 11, 10, true), 10);
        CHECKS.due("5: scores 290", done.score(game, 9), 290);
        CHECKS.due("5: a foul instead of the last strike but three", done.fix(game, 8, 10, true), 10);
        CHECKS.due("5: then it is not done", done.isDone(game), false);
        CHECKS.due("5: and 10 stand, after a strike and a foul", done.standing(game), 10);
        done.fix(game, 8, 0, false);
        CHECKS.due("5: 0 and 10 is a spare", done.frame(game, 8), '/');
        CHECKS.refused("21: no game is done then", NoSuchElementException.class, () -> done.average(0));
    }

    private static void fixRefused() {
        PinHall hall = Halls.withPlayers(1);
        CHECKS.refused("5: no game", IndexOutOfBoundsException.class, () -> hall.fix(0, 0, -1, false));
        hall.begin(0, 0);
        CHECKS.refused("5: no roll", IndexOutOfBoundsException.class, () -> hall.fix(0, 0, -1, false));
        Halls.rollAll(hall, 0, 2, 5, 10);
        CHECKS.refused("5: game -1", IndexOutOfBoundsException.class, () -> hall.fix(-1, 0, 0, false));
        CHECKS.refused("5: roll -1", IndexOutOfBoundsException.class, () -> hall.fix(0, -1, 0, false));
        CHECKS.refused("5: roll 3 of 3", IndexOutOfBoundsException.class, () -> hall.fix(0, 3, 0, false));
        CHECKS.refused("5: -1 pins", IllegalArgumentException.class, () -> hall.fix(0, 0, -1, false));
        CHECKS.refused("5: -1 pins by a foul", IllegalArgumentException.class, () -> hall.fix(0, 0, -1, true));
        CHECKS.refused("5: 11 pins", IllegalArgumentException.class, () -> hall.fix(0, 0, 11, false));
        CHECKS.refused("5: 11 pins by a foul", IllegalArgumentException.class, () -> hall.fix(0, 0, 11, true));
        CHECKS.refused("5: 6 leaves 4 for 5", IllegalArgumentException.class, () -> hall.fix(0, 0, 6, false));
        CHECKS.refused("5: a strike leaves 5 for 10", IllegalArgumentException.class, () -> hall.fix(0, 0, 10, false));
        CHECKS.due("5: nothing changed", hall.score(0, 0), 7);
        CHECKS.due("5: nor the frames", hall.frame(0, 1), 'x');
        CHECKS.due("5: nor the rolls", hall.rolls(0), 3);
        hall.fix(0, 1, 5, true);
        CHECKS.refused("5: a foul would have 5 of 4", IllegalArgumentException.class, () -> hall.fix(0, 0, 6, false));
        int level = Halls.level(hall, 0, 0, 0);
        CHECKS.refused("5: done ahead of its last roll", UnsupportedOperationException.class,
                () -> hall.fix(level, 0, 10, false));
        CHECKS.due("5: the game is as it was", hall.score(level, 9), 0);
        CHECKS.due("5: and done", hall.isDone(level), true);
        CHECKS.due("5: with its frames", hall.frame(level, 0), 'o');
        CHECKS.refused("5: pins ahead of that", IllegalArgumentException.class, () -> hall.fix(level, 0, -1, false));
        int spare = hall.begin(0, 0);
        Halls.rollAll(hall, spare, 10, 10, 10, 10, 10, 10, 10, 10, 10, 4, 6, 3);
        CHECKS.refused("5: no spare, but a third roll", UnsupportedOperationException.class,
                () -> hall.fix(spare, 10, 5, false));
        CHECKS.due("5: nothing changed by that", hall.score(spare, 9), 267);
        CHECKS.due("5: the third roll may be fixed", hall.fix(spare, 11, 10, false), 10);
        CHECKS.refused("5: a strike and 6 leave 4 for 10", IllegalArgumentException.class,
                () -> hall.fix(spare, 9, 10, false));
    }

    private static void fixUndecides() {
        PinHall hall = Halls.withPlayers(1);
        hall.begin(0, 0);
        Halls.rollAll(hall, 0, 3, 4);
        CHECKS.due("9: 3 and 4", hall.score(0, 0), 7);
        hall.fix(0, 1, 7, false);
        CHECKS.refused("9: a spare without a roll", NoSuchElementException.class, () -> hall.score(0, 0));
        hall.fix(0, 1, 4, false);
        CHECKS.refused("5: a foul with 8 of 7", IllegalArgumentException.class, () -> hall.fix(0, 1, 8, true));
        CHECKS.due("5: is not kept as a foul", hall.score(0, 0), 7);
        hall.fix(0, 1, 4, true);
        CHECKS.refused("5: 8 of 7", IllegalArgumentException.class, () -> hall.fix(0, 1, 8, false));
        CHECKS.due("5: leaves the foul", hall.score(0, 0), 3);
    }

    private static void standing() {
        PinHall hall = Halls.withPlayers(1);
        CHECKS.refused("6: no game", IndexOutOfBoundsException.class, () -> hall.rolls(0));
        CHECKS.refused("7: no game", IndexOutOfBoundsException.class, () -> hall.standing(0));
        CHECKS.refused("8: no game", IndexOutOfBoundsException.class, () -> hall.isDone(0));
        hall.begin(0, 0);
        CHECKS.refused("6: game -1", IndexOutOfBoundsException.class, () -> hall.rolls(-1));
        CHECKS.refused("7: game -1", IndexOutOfBoundsException.class, () -> hall.standing(-1));
        CHECKS.refused("8: game -1", IndexOutOfBoundsException.class, () -> hall.isDone(-1));
        CHECKS.due("6: no roll", hall.rolls(0), 0);
        CHECKS.due("7: 10 stand at first", hall.standing(0), 10);
        CHECKS.due("8: not done", hall.isDone(0), false);
        hall.roll(0, 7, false);
        CHECKS.due("7: 3 are left", hall.standing(0), 3);
        hall.roll(0, 2, false);
        CHECKS.due("7: all by the second roll", hall.standing(0), 10);
        int level = hall.begin(0, 0);
        for (int i = 0; i < 19; i++) {
            hall.roll(level, 4, false);
        }
        CHECKS.due("8: one roll is missing", hall.isDone(level), false);
        hall.roll(level, 4, false);
        CHECKS.due("8: done", hall.isDone(level), true);
        CHECKS.due("7: none stand when it is done", hall.standing(level), 0);
        CHECKS.due("6: 20 rolls", hall.rolls(level), 20);
        int most = hall.begin(0, 0);
        for (int i = 0; i < 21; i++) {
            hall.roll(most, 5, false);
        }
        CHECKS.due("6: 21 rolls", hall.rolls(most), 21);
        CHECKS.due("8: done by them", hall.isDone(most), true);
        CHECKS.due("9: all spares of 5", hall.score(most, 9), 150);
    }

    private static void score() {
        PinHall hall = Halls.withPlayers(1);
        CHECKS.refused("9: no game", IndexOutOfBoundsException.class, () -> hall.score(0, 10));
        hall.begin(0, 0);
        CHECKS.refused("9: frame -1", IllegalArgumentException.class, () -> hall.score(0, -1));
        CHECKS.refused("9: frame 10", IllegalArgumentException.class, () -> hall.score(0, 10));
        CHECKS.refused("9: no roll", NoSuchElementException.class, () -> hall.score(0, 0));
        hall.roll(0, 10, false);
        CHECKS.refused("9: strike without any", NoSuchElementException.class, () -> hall.score(0, 0));
        hall.roll(0, 10, false);
        CHECKS.refused("9: strike with one", NoSuchElementException.class, () -> hall.score(0, 0));
        hall.roll(0, 4, false);
        CHECKS.due("9: strike with two", hall.score(0, 0), 24);
        CHECKS.refused("9: the second strike has one", NoSuchElementException.class, () -> hall.score(0, 1));
        hall.roll(0, 6, false);
        CHECKS.due("9: the second strike with a spare", hall.score(0, 1), 44);
        CHECKS.refused("9: spare without any", NoSuchElementException.class, () -> hall.score(0, 2));
        hall.roll(0, 3, false);
        CHECKS.due("9: spare with one", hall.score(0, 2), 57);
        CHECKS.refused("9: frame 3 is not over", NoSuchElementException.class, () -> hall.score(0, 3));
        CHECKS.refused("9: frame 9 has none", NoSuchElementException.class, () -> hall.score(0, 9));
    }

    private static void scoreOfLastFrame() {
        PinHall hall = Halls.withPlayers(1);
        int game = hall.begin(0, 0);
        Halls.rollAll(hall, game, 0, 0, 0, 0, 0, 0, 0, 0, 0, 0, 0, 0, 0, 0, 0, 0, 10, 10);
        CHECKS.refused("9: last strike but one", NoSuchElementException.class, () -> hall.score(game, 8));
        hall.roll(game, 10, false);
        CHECKS.due("9: frame 8 takes two of frame 9", hall.score(game, 8), 30);
        CHECKS.refused("9: last frame is not over", NoSuchElementException.class, () -> hall.score(game, 9));
        hall.roll(game, 7, false);
        CHECKS.due("9: the last frame counts what its rolls took", hall.score(game, 9), 57);
        int spare = hall.begin(0, 0);
        Halls.rollAll(hall, spare, 0, 0, 0, 0, 0, 0, 0, 0, 0, 0, 0, 0, 0, 0, 0, 0, 0, 0, 2, 8);
        CHECKS.refused("9: a spare is not over", NoSuchElementException.class, () -> hall.score(spare, 9));
        hall.roll(spare, 7, false);
        CHECKS.due("9: the third roll counts once", hall.score(spare, 9), 17);
        int perfect = Halls.perfect(hall, 0, 0);
        for (int i = 0; i < 10; i++) {
            CHECKS.due("9: perfect up to " + i, hall.score(perfect, i), 30 * (i + 1));
        }
    }

    private static void frame() {
        PinHall hall = Halls.withPlayers(1);
        CHECKS.refused("10: no game", IndexOutOfBoundsException.class, () -> hall.frame(0, 10));
        hall.begin(0, 0);
        CHECKS.refused("10: frame -1", IllegalArgumentException.class, () -> hall.frame(0, -1));
        CHECKS.refused("10: frame 10", IllegalArgumentException.class, () -> hall.frame(0, 10));
        CHECKS.due("10: no roll", hall.frame(0, 0), '-');
        int struck = hall.begin(0, 0);
        hall.roll(struck, 10, false);
        CHECKS.due("10: no roll after a strike", hall.frame(struck, 1), '-');
        CHECKS.due("10: no roll in the last frame", hall.frame(struck, 9), '-');
        hall.roll(0, 0, false);
        CHECKS.due("10: one roll", hall.frame(0, 0), '-');
        Halls.rollAll(hall, 0, 10, 10, 3, 4, 10, 10, 10, 10, 10, 10);
        CHECKS.due("10: 0 and 10 is a spare", hall.frame(0, 0), '/');
        CHECKS.due("10: a strike", hall.frame(0, 1), 'x');
        CHECKS.due("10: another one", hall.frame(0, 2), 'o');
        CHECKS.due("10: not begun", hall.frame(0, 9), '-');
        hall.roll(0, 10, false);
        CHECKS.due("10: a strike in the last frame, not over", hall.frame(0, 9), 'x');
        Halls.rollAll(hall, 0, 4, 6);
        CHECKS.due("10: stays one with 4 and 6", hall.frame(0, 9), 'x');
        int level = Halls.level(hall, 0, 0, 3);
        CHECKS.due("10: last frame over", hall.frame(level, 9), 'o');
        int spare = hall.begin(0, 0);
        Halls.rollAll(hall, spare, 10, 10, 10, 10, 10, 10, 10, 10, 10, 9);
        CHECKS.due("10: last frame with one roll", hall.frame(spare, 9), '-');
        hall.roll(spare, 1, false);
        CHECKS.due("10: last frame's spare, not over", hall.frame(spare, 9), '/');
        hall.roll(spare, 10, false);
        CHECKS.due("10: last frame's spare, over", hall.frame(spare, 9), '/');
    }
}
