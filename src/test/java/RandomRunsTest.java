import java.lang.reflect.InvocationTargetException;
import java.lang.reflect.Method;
import java.util.Arrays;
import java.util.HashMap;
import java.util.Map;
import java.util.Random;

/**
 * Runs of many calls, right and wrong ones mixed, each answered by PinHall and by NaiveHall alike. The
 * seeds are fixed, so every run of this test makes the same calls.
 */
public final class RandomRunsTest {
    private static final Checks CHECKS = new Checks();
    private static final int RUNS = 300;
    private static final int CALLS = 512;
    private static final Map<String, Method> FACE = new HashMap<>();

    public static void main(String[] args) throws IllegalAccessException {
        for (Method m : PinHall.class.getDeclaredMethods()) {
            FACE.put(m.getName(), m);
        }
        for (int seed = 0; seed < RUNS; seed++) {
            new RandomRunsTest(seed).run();
        }
        CHECKS.end();
    }

    private final PinHall hall = new PinHall();
    private final NaiveHall naive = new NaiveHall();
    private final Random random;
    private final int seed;
    private int calls = 0;
    private int goodShots;

    private RandomRunsTest(int seed) {
        this.seed = seed;
        this.random = new Random(seed);
        this.goodShots = seed % 4;
    }

    private void run() throws IllegalAccessException {
        if (seed % 2 == 0) {
            runLeague();
            return;
        }
        int players = 2 + random.nextInt(7);
        for (int i = 0; i < players; i++) {
            both("addPlayer");
        }
        if (seed % 3 == 0) {
            both("setHandicap", random.nextInt(101), random.nextInt(301), random.nextInt(301));
        }
        int kind = seed % 5;
        while (calls < CALLS) {
            int pick = random.nextInt(100);
            if (pick < 8) {
                startSomething();
            } else if (pick < 60) {
                if (kind == 0 || kind < 3 && random.nextInt(4) > 0) {
                    playGame();
                } else {
                    playLeg();
                }
            } else if (pick < 68) {
                correct();
            } else if (pick < 75) {
                pot();
            } else if (pick < 95) {
                ask();
            } else {
                strange();
            }
        }
    }

    /** Whole games in two weeks, and after each of them all that the league and the knockout answer. */
    private void runLeague() throws IllegalAccessException {
        int players = 5 + random.nextInt(4);
        for (int i = 0; i < players; i++) {
            both("addPlayer");
        }
        for (int i = 0; i + 1 < players; i += 2) {
            both("team", i + 1, i);
        }
        both("setHandicap", random.nextInt(101), random.nextInt(301), random.nextInt(301));
        for (int i = 0; i < 8; i++) {
            both("match", near(naive.teamCount()), near(naive.teamCount()), random.nextInt(3));
        }
        boolean isLow = random.nextBoolean();
        while (calls < CALLS) {
            both("begin", near(players), random.nextInt(2));
            int game = naive.gameCount() - 1;
            for (int i = 0; i < 21 && calls < CALLS && game >= 0 && naive.standing(game) > 0; i++) {
                // Low scores are often the same, high ones differ.
                int pins = isLow ? random.nextInt(2) : random.nextInt(3) == 0 ? 0 : naive.standing(game);
                both("roll", game, pins, foul());
            }
            askLeague();
            correct();
            askLeague();
        }
    }

    private void askLeague() throws IllegalAccessException {
        for (int i = 0; i < naive.teamCount(); i++) {
            both("points", i);
            both("ranked", i);
        }
        both("champion", 0);
        both("champion", 1);
        both("isSound");
        if (random.nextInt(4) == 0) {
            both("setHandicap", random.nextInt(101), random.nextInt(301), random.nextInt(301));
        }
    }

    /** Makes the call on both; what the machine throws by itself is never the answer that is due. */
    private void both(String name, int... a) throws IllegalAccessException {
        calls++;
        String got;
        Method m = FACE.get(name);
        Object[] args = new Object[a.length];
        for (int i = 0; i < a.length; i++) {
            args[i] = m.getParameterTypes()[i] == boolean.class ? (Object) (a[i] == 1) : (Object) a[i];
        }
        try {
            got = "" + m.invoke(hall, args);
        } catch (InvocationTargetException e) {
            got = Checks.nameOf(e.getCause());
        }
        CHECKS.due("seed " + seed + ", call " + calls + ": " + name + Arrays.toString(a), got, naive.call(name, a));
    }

    /** A number below the bound, or now and then one next to it. */
    private int near(int bound) {
        int pick = random.nextInt(40);
        return pick == 0 ? -1 : pick == 1 ? bound : random.nextInt(Math.max(1, bound));
    }

    private int week() {
        return random.nextInt(4) == 0 ? near(20) : random.nextInt(2);
    }

    private void startSomething() throws IllegalAccessException {
        int players = naive.playerCount();
        switch (random.nextInt(6)) {
            case 0: case 1: both("begin", near(players), week()); break;
            case 2: both("leg", near(players), near(players), startOfLeg(), random.nextInt(2)); break;
            case 3: both("team", near(players), near(players)); break;
            case 4: both("match", near(naive.teamCount()), near(naive.teamCount()), week()); break;
            default: both("setHandicap", near(101), near(301), near(301)); break;
        }
    }

    private int startOfLeg() {
        int pick = random.nextInt(20);
        return pick == 0 ? 1 : pick == 1 ? 1002 : pick < 5 ? 2 + random.nextInt(1000) : 2 + random.nextInt(180);
    }

    private int pins(int stand) {
        int pick = random.nextInt(12);
        if (pick < 4 + goodShots) {
            return stand;
        }
        return pick == 11 ? near(11) : random.nextInt(stand + 1);
    }

    private int foul() {
        return random.nextInt(9) == 0 ? 1 : 0;
    }

    /** Some rolls in a row, so that games come to their end. */
    private void playGame() throws IllegalAccessException {
        if (naive.gameCount() == 0 || random.nextInt(6) == 0) {
            both("begin", near(naive.playerCount()), week());
        }
        if (naive.gameCount() == 0) {
            return;
        }
        int game = naive.gameCount() - 1 - random.nextInt(Math.min(2, naive.gameCount()));
        int rolls = 1 + random.nextInt(21);
        for (int i = 0; i < rolls && calls < CALLS; i++) {
            int stand = naive.standing(game);
            if (stand == 0 && random.nextInt(10) > 0) {
                return;
            }
            both("roll", game, pins(stand), foul());
            if (random.nextInt(6) == 0) {
                both("score", game, near(10));
            }
        }
    }

    private int[] hit(int rest) {
        int pick = random.nextInt(20);
        if (pick == 0) {
            return new int[] {near(27), near(4)};
        }
        if (pick < 6 && rest <= 40 && rest % 2 == 0) {
            return new int[] {rest / 2, 2};
        }
        if (pick < 8) {
            return new int[] {0, 1};
        }
        if (pick < 10) {
            return new int[] {25, 1 + random.nextInt(2)};
        }
        return new int[] {1 + random.nextInt(20), 1 + random.nextInt(3)};
    }

    private void playLeg() throws IllegalAccessException {
        if (naive.legCount() == 0) {
            both("leg", 0, 1, startOfLeg(), random.nextInt(2));
        }
        if (naive.legCount() == 0) {
            return;
        }
        int leg = random.nextInt(naive.legCount());
        int darts = 1 + random.nextInt(4);
        for (int i = 0; i < darts && calls < CALLS; i++) {
            int[] hit = hit(naive.restOfTurn(leg));
            both("dart", leg, hit[0], hit[1]);
            if (random.nextInt(3) == 0) {
                both("wayOut", leg);
                both("wayOutAt", leg, near(3));
            }
        }
    }

    private void correct() throws IllegalAccessException {
        if (naive.gameCount() > 0) {
            int game = random.nextInt(naive.gameCount());
            both("fix", game, near(naive.rollCount(game)), random.nextInt(3) == 0 ? 10 : near(11), foul());
        }
        if (naive.legCount() > 0) {
            int leg = random.nextInt(naive.legCount());
            int[] hit = hit(naive.restOfTurn(leg));
            both("fixDart", leg, near(naive.dartCount(leg)), hit[0], hit[1]);
        }
    }

    private void pot() throws IllegalAccessException {
        both("pay", near(naive.playerCount()), 1 + near(99));
        both("tries", near(naive.gameCount()), near(10));
        both("purse", near(naive.playerCount()));
    }

    private void ask() throws IllegalAccessException {
        int game = near(naive.gameCount());
        int leg = near(naive.legCount());
        int player = near(naive.playerCount());
        switch (random.nextInt(7)) {
            case 0:
                both("rolls", game);
                both("standing", game);
                both("isDone", game);
                break;
            case 1:
                both("score", game, near(10));
                both("frame", game, near(10));
                break;
            case 2:
                both("rest", leg, near(2));
                both("turnOf", leg);
                both("winner", leg);
                both("busts", leg);
                break;
            case 3:
                both("average", player);
                both("handicap", player);
                break;
            case 4:
                both("points", near(naive.teamCount()));
                both("ranked", near(naive.teamCount()));
                break;
            case 5:
                both("champion", week());
                both("isSound");
                break;
            default:
                both("pins");
                both("strikeShare");
                both("meanScore");
                break;
        }
    }

    /** Any method with arguments from the whole range of int, which nothing may overflow by. */
    private void strange() throws IllegalAccessException {
        String[] names = FACE.keySet().stream().sorted().toArray(String[]::new);
        String name = names[random.nextInt(names.length)];
        if (!java.lang.reflect.Modifier.isPublic(FACE.get(name).getModifiers())) {
            return;
        }
        int[] a = new int[FACE.get(name).getParameterCount()];
        for (int i = 0; i < a.length; i++) {
            int pick = random.nextInt(6);
            a[i] = pick == 0 ? Integer.MIN_VALUE : pick == 1 ? Integer.MAX_VALUE : pick == 2 ? random.nextInt()
                    : random.nextInt(3);
            if (FACE.get(name).getParameterTypes()[i] == boolean.class) {
                a[i] &= 1;
            }
        }
        both(name, a);
    }
}
