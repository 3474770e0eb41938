import java.util.NoSuchElementException;

/** Promises 11 to 19. */
public final class LegsTest {
    private static final Checks CHECKS = new Checks();

    public static void main(String[] args) {
        leg();
        hits();
        dart();
        doubleIn();
        bust();
        bustTakesBackBeingIn();
        mostDarts();
        fixDart();
        fixDartMovesTurns();
        fixDartRefused();
        rest();
        winner();
        wayOut();
        wayOutWithinTurn();
        wayOutWithDoubleIn();
        noWayOut();
        CHECKS.end();
    }

    private static PinHall withLeg(int start, boolean isDoubleIn) {
        PinHall hall = Halls.withPlayers(5);
        hall.leg(3, 1, start, isDoubleIn);
        return hall;
    }

    private static void leg() {
        PinHall hall = Halls.withPlayers(3);
        CHECKS.refused("11: player -1", IndexOutOfBoundsException.class, () -> hall.leg(-1, 1, 101, false));
        CHECKS.refused("11: player 3", IndexOutOfBoundsException.class, () -> hall.leg(3, 1, 101, false));
        CHECKS.refused("11: other -1", IndexOutOfBoundsException.class, () -> hall.leg(1, -1, 101, false));
        CHECKS.refused("11: other 3 ahead of start", IndexOutOfBoundsException.class, () -> hall.leg(1, 3, 0, false));
        CHECKS.refused("11: nobody 3 twice", IndexOutOfBoundsException.class, () -> hall.leg(3, 3, 101, false));
        CHECKS.refused("11: the same", IllegalArgumentException.class, () -> hall.leg(1, 1, 101, false));
        CHECKS.refused("11: start 1", IllegalArgumentException.class, () -> hall.leg(0, 1, 1, false));
        CHECKS.refused("11: start 1002", IllegalArgumentException.class, () -> hall.leg(0, 1, 1002, false));
        CHECKS.refused("11: none has begun", IndexOutOfBoundsException.class, () -> hall.busts(0));
        CHECKS.due("11: start 2", hall.leg(2, 0, 2, false), 0);
        CHECKS.due("11: start 1001", hall.leg(0, 1, 1001, true), 1);
        CHECKS.due("15: the first one begins", hall.turnOf(0), 2);
        CHECKS.due("14: with the start", hall.rest(1, 0), 1001);
        CHECKS.due("14: both of them", hall.rest(1, 1), 1001);
        for (int i = 2; i < 8; i++) {
            CHECKS.due("11: the same two again", hall.leg(0, 1, 501, false), i);
        }
        CHECKS.refused("11: a ninth leg", IllegalStateException.class, () -> hall.leg(0, 1, 501, false));
        CHECKS.refused("11: start ahead of legs", IllegalArgumentException.class, () -> hall.leg(0, 1, 1, false));
        CHECKS.refused("11: player ahead of legs", IndexOutOfBoundsException.class, () -> hall.leg(0, 3, 1, false));
    }

    private static void hits() {
        PinHall hall = Halls.withPlayers(2);
        for (int part = -2; part <= 52; part++) {
            for (int times = -1; times <= 4; times++) {
                boolean isHit = part == 0 && times == 1 || part >= 1 && part <= 20 && times >= 1 && times <= 3
                        || part == 25 && (times == 1 || times == 2);
                if (!isHit) {
                    int p = part;
                    int t = times;
                    PinHall other = withLeg(501, false);
                    CHECKS.refused("12: hit " + p + " x " + t, IllegalArgumentException.class, () -> other.dart(0, p, t));
                    other.dart(0, 1, 1);
                    CHECKS.refused("13: hit " + p + " x " + t, IllegalArgumentException.class,
                            () -> other.fixDart(0, 0, p, t));
                    CHECKS.due("13: not changed", other.rest(0, 0), 500);
                } else {
                    PinHall other = withLeg(501, false);
                    CHECKS.due("12: hit " + part + " x " + times, other.dart(0, part, times), 501 - part * times);
                }
            }
        }
        CHECKS.refused("12: no leg ahead of hit", IndexOutOfBoundsException.class, () -> hall.dart(0, 21, 1));
        CHECKS.refused("12: leg -1", IndexOutOfBoundsException.class, () -> hall.dart(-1, 1, 1));
    }

    private static void dart() {
        PinHall hall = withLeg(301, false);
        CHECKS.due("12: 60", hall.dart(0, 20, 3), 241);
        CHECKS.due("12: 0", hall.dart(0, 0, 1), 241);
        CHECKS.due("15: two darts end no turn", hall.turnOf(0), 3);
        CHECKS.due("12: 50", hall.dart(0, 25, 2), 191);
        CHECKS.due("15: three darts end a turn", hall.turnOf(0), 1);
        CHECKS.due("12: the other one's", hall.dart(0, 1, 1), 300);
        CHECKS.due("14: the first one's stays", hall.rest(0, 0), 191);
        Halls.throwAll(hall, 0, 1, 1);
        CHECKS.due("15: and back", hall.turnOf(0), 3);
        CHECKS.due("12: back at the first one's", hall.dart(0, 19, 3), 134);
        CHECKS.due("17: no bust", hall.busts(0), 0);
    }

    private static void doubleIn() {
        PinHall hall = withLeg(101, true);
        CHECKS.due("12: not in with a triple", hall.dart(0, 20, 3), 101);
        CHECKS.due("12: not in with a bull", hall.dart(0, 25, 1), 101);
        CHECKS.due("12: the double counts", hall.dart(0, 1, 2), 99);
        CHECKS.due("12: the other one is not in", hall.dart(0, 20, 1), 101);
        CHECKS.due("12: but by 25 twice", hall.dart(0, 25, 2), 51);
        CHECKS.due("12: then all counts", hall.dart(0, 20, 1), 31);
        CHECKS.due("12: for the first one too", hall.dart(0, 20, 3), 39);
        PinHall out = withLeg(40, true);
        CHECKS.due("12: in and out by one", out.dart(0, 20, 2), 0);
        CHECKS.due("16: won by one dart", out.winner(0), 3);
    }

    private static void bust() {
        PinHall less = withLeg(50, false);
        Halls.throwAll(less, 0, 101);
        CHECKS.due("12: less than 0", less.dart(0, 20, 3), 50);
        CHECKS.due("15: the turn ends", less.turnOf(0), 1);
        CHECKS.due("17: a bust", less.busts(0), 1);
        Halls.throwAll(less, 0, 101, 201);
        CHECKS.due("12: to 1", less.dart(0, 19, 1), 50);
        CHECKS.due("17: another bust", less.busts(0), 2);
        PinHall later = withLeg(50, false);
        Halls.throwAll(later, 0, 101, 1, 1, 1, 1, 1);
        Halls.throwAll(later, 0, 91);
        CHECKS.due("12: back to where the turn began", later.dart(0, 20, 2), 40);
        CHECKS.due("14: not the other one's", later.rest(0, 1), 50);
        PinHall single = withLeg(20, false);
        CHECKS.due("12: to 0 by a single", single.dart(0, 20, 1), 20);
        CHECKS.due("17: busts", single.busts(0), 1);
        CHECKS.refused("16: and does not win", NoSuchElementException.class, () -> single.winner(0));
        PinHall triple = withLeg(60, false);
        CHECKS.due("12: to 0 by a triple", triple.dart(0, 20, 3), 60);
        CHECKS.due("17: busts too", triple.busts(0), 1);
        PinHall two = withLeg(22, false);
        CHECKS.due("12: to 2", two.dart(0, 20, 1), 2);
        CHECKS.due("17: does not bust", two.busts(0), 0);
        CHECKS.due("15: nor end the turn", two.turnOf(0), 3);
        PinHall last = withLeg(22, false);
        Halls.throwAll(last, 0, 1, 1, 251);
        CHECKS.due("15: a bust by the third dart ends one turn", last.turnOf(0), 1);
    }

    private static void bustTakesBackBeingIn() {
        PinHall hall = withLeg(40, true);
        CHECKS.due("12: in by 2", hall.dart(0, 1, 2), 38);
        CHECKS.due("12: bust", hall.dart(0, 20, 2), 40);
        Halls.throwAll(hall, 0, 1, 1, 1);
        CHECKS.due("12: not in any more", hall.dart(0, 20, 1), 40);
        PinHall kept = withLeg(40, true);
        Halls.throwAll(kept, 0, 12, 1, 1, 1, 1, 1);
        CHECKS.due("12: bust in a later turn", kept.dart(0, 20, 3), 38);
        Halls.throwAll(kept, 0, 1, 1, 1);
        CHECKS.due("12: still in", kept.dart(0, 20, 1), 18);
        PinHall at = withLeg(40, true);
        CHECKS.due("12: the double itself busts", at.dart(0, 25, 2), 40);
        Halls.throwAll(at, 0, 1, 1, 1);
        CHECKS.due("12: and was not the first one", at.dart(0, 20, 1), 40);
    }

    private static void mostDarts() {
        PinHall hall = withLeg(1001, false);
        for (int i = 0; i < 60; i++) {
            hall.dart(0, 0, 1);
        }
        CHECKS.refused("12: a 61st dart", IllegalStateException.class, () -> hall.dart(0, 0, 1));
        CHECKS.refused("12: hit ahead of darts", IllegalArgumentException.class, () -> hall.dart(0, 0, 2));
        CHECKS.refused("13: no 61st dart", IndexOutOfBoundsException.class, () -> hall.fixDart(0, 60, 0, 1));
        CHECKS.due("13: the 60th dart", hall.fixDart(0, 59, 1, 1), 3);
        CHECKS.due("14: counts", hall.rest(0, 1), 1000);
        PinHall won = withLeg(2, false);
        for (int i = 0; i < 59; i++) {
            won.dart(0, 0, 1);
        }
        CHECKS.due("12: the 60th wins", won.dart(0, 1, 2), 0);
        CHECKS.refused("12: won ahead of 60 darts", UnsupportedOperationException.class, () -> won.dart(0, 0, 1));
    }

    private static void fixDart() {
        PinHall hall = withLeg(101, false);
        Halls.throwAll(hall, 0, 203, 11, 202);
        CHECKS.due("16: won", hall.winner(0), 3);
        CHECKS.due("13: 20 instead of 1 busts", hall.fixDart(0, 1, 20, 1), 1);
        CHECKS.due("17: one bust", hall.busts(0), 1);
        CHECKS.due("14: the rest of before", hall.rest(0, 0), 101);
        CHECKS.due("13: back again, won", hall.fixDart(0, 1, 1, 1), 3);
        CHECKS.due("16: won again", hall.winner(0), 3);
        CHECKS.due("17: none again", hall.busts(0), 0);
        CHECKS.due("13: the last one", hall.fixDart(0, 2, 19, 2), 1);
        CHECKS.due("14: 2 are left", hall.rest(0, 0), 2);
        PinHall in = withLeg(101, true);
        Halls.throwAll(in, 0, 51, 102, 51);
        CHECKS.due("13: in from the first dart", in.fixDart(0, 0, 5, 2), 1);
        CHECKS.due("14: all count", in.rest(0, 0), 66);
        in.fixDart(0, 0, 0, 1);
        in.fixDart(0, 1, 0, 1);
        CHECKS.due("14: none count", in.rest(0, 0), 101);
    }

    private static void fixDartMovesTurns() {
        PinHall hall = withLeg(60, false);
        Halls.throwAll(hall, 0, 203, 101, 1, 1);
        CHECKS.due("17: bust by 60", hall.busts(0), 1);
        CHECKS.due("14: 10 of the other one", hall.rest(0, 1), 50);
        CHECKS.due("13: with 0, 10 is the first one's", hall.fixDart(0, 0, 0, 1), 1);
        CHECKS.due("14: of 60", hall.rest(0, 0), 50);
        CHECKS.due("14: and not the other one's", hall.rest(0, 1), 60);
        CHECKS.due("15: who has thrown once", hall.turnOf(0), 1);
        Halls.throwAll(hall, 0, 1, 1);
        CHECKS.due("15: and two more end it", hall.turnOf(0), 3);
    }

    private static void fixDartRefused() {
        PinHall hall = withLeg(40, false);
        CHECKS.refused("13: no leg", IndexOutOfBoundsException.class, () -> hall.fixDart(1, 0, 21, 1));
        CHECKS.refused("13: leg -1", IndexOutOfBoundsException.class, () -> hall.fixDart(-1, 0, 1, 1));
        CHECKS.refused("13: no dart ahead of hit", IndexOutOfBoundsException.class, () -> hall.fixDart(0, 0, 21, 1));
        Halls.throwAll(hall, 0, 101, 101);
        CHECKS.refused("13: dart -1", IndexOutOfBoundsException.class, () -> hall.fixDart(0, -1, 1, 1));
        CHECKS.refused("13: dart 2 of 2", IndexOutOfBoundsException.class, () -> hall.fixDart(0, 2, 1, 1));
        CHECKS.refused("13: won too early", UnsupportedOperationException.class, () -> hall.fixDart(0, 0, 20, 2));
        CHECKS.due("14: nothing changed", hall.rest(0, 0), 20);
        CHECKS.due("15: the turn is as it was", hall.turnOf(0), 3);
        CHECKS.due("12: with a dart left", hall.dart(0, 10, 2), 0);
        CHECKS.refused("13: hit ahead of it", IllegalArgumentException.class, () -> hall.fixDart(0, 0, 20, 4));
        CHECKS.refused("13: won already, too early", UnsupportedOperationException.class,
                () -> hall.fixDart(0, 0, 20, 2));
        CHECKS.due("16: still won", hall.winner(0), 3);
    }

    private static void rest() {
        PinHall hall = withLeg(101, false);
        CHECKS.refused("14: no leg ahead of which", IndexOutOfBoundsException.class, () -> hall.rest(1, 2));
        CHECKS.refused("14: leg -1", IndexOutOfBoundsException.class, () -> hall.rest(-1, 0));
        CHECKS.refused("14: which 2", IllegalArgumentException.class, () -> hall.rest(0, 2));
        CHECKS.refused("14: which -1", IllegalArgumentException.class, () -> hall.rest(0, -1));
        CHECKS.refused("17: no leg", IndexOutOfBoundsException.class, () -> hall.busts(1));
        CHECKS.refused("17: leg -1", IndexOutOfBoundsException.class, () -> hall.busts(-1));
        Halls.throwAll(hall, 0, 11, 11, 11, 21);
        CHECKS.due("14: who began", hall.rest(0, 0), 98);
        CHECKS.due("14: the other one", hall.rest(0, 1), 99);
    }

    private static void winner() {
        PinHall hall = withLeg(2, false);
        CHECKS.refused("15: no leg", IndexOutOfBoundsException.class, () -> hall.turnOf(1));
        CHECKS.refused("15: leg -1", IndexOutOfBoundsException.class, () -> hall.turnOf(-1));
        CHECKS.refused("16: no leg", IndexOutOfBoundsException.class, () -> hall.winner(1));
        CHECKS.refused("16: leg -1", IndexOutOfBoundsException.class, () -> hall.winner(-1));
        CHECKS.refused("16: not won", NoSuchElementException.class, () -> hall.winner(0));
        Halls.throwAll(hall, 0, 11);
        CHECKS.due("12: the other one wins", hall.dart(0, 1, 2), 0);
        CHECKS.due("16: the other one", hall.winner(0), 1);
        CHECKS.refused("15: won", NoSuchElementException.class, () -> hall.turnOf(0));
        CHECKS.refused("12: won", UnsupportedOperationException.class, () -> hall.dart(0, 1, 1));
        CHECKS.refused("12: hit ahead of won", IllegalArgumentException.class, () -> hall.dart(0, 21, 1));
        CHECKS.due("17: the busts of both", hall.busts(0), 1);
    }

    private static void wayIs(String what, PinHall hall, int... way) {
        CHECKS.due("18: " + what, hall.wayOut(0), way.length);
        for (int i = 0; i < way.length; i++) {
            CHECKS.due("19: " + what + ", dart " + i, hall.wayOutAt(0, i), way[i]);
        }
        CHECKS.refused("19: " + what + ", no more", NoSuchElementException.class, () -> hall.wayOutAt(0, way.length));
        CHECKS.refused("19: " + what + ", none ahead", NoSuchElementException.class, () -> hall.wayOutAt(0, -1));
    }

    private static void wayOut() {
        CHECKS.refused("18: no leg", IndexOutOfBoundsException.class, () -> withLeg(40, false).wayOut(1));
        CHECKS.refused("18: leg -1", IndexOutOfBoundsException.class, () -> withLeg(40, false).wayOut(-1));
        CHECKS.refused("19: no leg", IndexOutOfBoundsException.class, () -> withLeg(40, false).wayOutAt(1, 0));
        CHECKS.refused("19: leg -1", IndexOutOfBoundsException.class, () -> withLeg(40, false).wayOutAt(-1, 9));
        wayIs("of 2", withLeg(2, false), 12);
        wayIs("of 3", withLeg(3, false), 11, 12);
        wayIs("of 40", withLeg(40, false), 202);
        wayIs("of 50", withLeg(50, false), 252);
        wayIs("of 41", withLeg(41, false), 11, 202);
        wayIs("of 42, 1 twice is the lowest", withLeg(42, false), 12, 202);
        wayIs("of 43, 1 three times", withLeg(43, false), 13, 202);
        wayIs("of 60, 5 twice and the bull", withLeg(60, false), 52, 252);
        wayIs("of 99, by three", withLeg(99, false), 11, 163, 252);
        wayIs("of 110", withLeg(110, false), 203, 252);
        wayIs("of 170", withLeg(170, false), 203, 203, 252);
    }

    private static void wayOutWithinTurn() {
        PinHall hall = withLeg(101, false);
        Halls.throwAll(hall, 0, 1, 1);
        CHECKS.refused("18: 101 by one dart", NoSuchElementException.class, () -> hall.wayOut(0));
        CHECKS.refused("19: 101 by one dart", NoSuchElementException.class, () -> hall.wayOutAt(0, 0));
        Halls.throwAll(hall, 0, 203);
        CHECKS.due("18: the other one has three", hall.wayOut(0), 2);
        Halls.throwAll(hall, 0, 1);
        CHECKS.due("18: two are enough", hall.wayOut(0), 2);
        Halls.throwAll(hall, 0, 1);
        CHECKS.refused("18: one is not", NoSuchElementException.class, () -> hall.wayOut(0));
        Halls.throwAll(hall, 0, 1);
        CHECKS.due("14: back at 41", hall.rest(0, 0), 41);
        wayIs("of 41 again", hall, 11, 202);
        Halls.throwAll(hall, 0, 11);
        wayIs("of 40 with two", hall, 202);
    }

    private static void wayOutWithDoubleIn() {
        wayIs("in and out of 40", withLeg(40, true), 202);
        wayIs("in out of 41, by three", withLeg(41, true), 12, 11, 192);
        wayIs("in out of 42", withLeg(42, true), 12, 202);
        wayIs("in out of 60", withLeg(60, true), 52, 252);
        wayIs("in out of 160", withLeg(160, true), 252, 203, 252);
        CHECKS.refused("18: 170 when not in", NoSuchElementException.class, () -> withLeg(170, true).wayOut(0));
        PinHall one = withLeg(41, true);
        Halls.throwAll(one, 0, 1);
        CHECKS.refused("18: 41 when not in, by two", NoSuchElementException.class, () -> one.wayOut(0));
        PinHall in = withLeg(162, true);
        Halls.throwAll(in, 0, 12, 1, 1, 1, 1, 1);
        CHECKS.due("14: in and at 160", in.rest(0, 0), 160);
        wayIs("of 160 when in", in, 203, 203, 202);
    }

    private static void noWayOut() {
        for (int start : new int[] {159, 162, 163, 165, 166, 168, 169, 171, 180, 501, 1001}) {
            CHECKS.refused("18: of " + start, NoSuchElementException.class, () -> withLeg(start, false).wayOut(0));
            CHECKS.refused("19: of " + start, NoSuchElementException.class, () -> withLeg(start, false).wayOutAt(0, 0));
        }
        for (int start : new int[] {158, 160, 161, 164, 167, 170}) {
            CHECKS.due("18: of " + start, withLeg(start, false).wayOut(0), 3);
        }
        PinHall won = withLeg(2, false);
        Halls.throwAll(won, 0, 12);
        CHECKS.refused("18: won", NoSuchElementException.class, () -> won.wayOut(0));
        CHECKS.refused("19: won", NoSuchElementException.class, () -> won.wayOutAt(0, 0));
    }
}
