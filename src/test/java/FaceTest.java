import java.lang.reflect.Constructor;
import java.lang.reflect.Field;
import java.lang.reflect.Method;
import java.lang.reflect.Modifier;
import java.util.ArrayList;
import java.util.Arrays;
import java.util.Collections;
import java.util.List;

/** The face of the document, to the letter, and what LANGUAGE.md says of members and classes. */
public final class FaceTest {
    private static final Checks CHECKS = new Checks();
    private static final String[] FACE = {
        "int addPlayer() throws IllegalStateException",
        "int begin(int, int) throws IndexOutOfBoundsException, IllegalArgumentException, IllegalStateException",
        "int roll(int, int, boolean) throws IndexOutOfBoundsException, UnsupportedOperationException,"
            + " IllegalArgumentException",
        "int fix(int, int, int, boolean) throws IndexOutOfBoundsException, IllegalArgumentException,"
            + " UnsupportedOperationException",
        "int rolls(int) throws IndexOutOfBoundsException",
        "int standing(int) throws IndexOutOfBoundsException",
        "boolean isDone(int) throws IndexOutOfBoundsException",
        "int score(int, int) throws IndexOutOfBoundsException, IllegalArgumentException, NoSuchElementException",
        "char frame(int, int) throws IndexOutOfBoundsException, IllegalArgumentException",
        "int leg(int, int, int, boolean) throws IndexOutOfBoundsException, IllegalArgumentException,"
            + " IllegalStateException",
        "int dart(int, int, int) throws IndexOutOfBoundsException, IllegalArgumentException,"
            + " UnsupportedOperationException, IllegalStateException",
        "int fixDart(int, int, int, int) throws IndexOutOfBoundsException, IllegalArgumentException,"
            + " UnsupportedOperationException",
        "int rest(int, int) throws IndexOutOfBoundsException, IllegalArgumentException",
        "int turnOf(int) throws IndexOutOfBoundsException, NoSuchElementException",
        "int winner(int) throws IndexOutOfBoundsException, NoSuchElementException",
        "int busts(int) throws IndexOutOfBoundsException",
        "int wayOut(int) throws IndexOutOfBoundsException, NoSuchElementException",
        "int wayOutAt(int, int) throws IndexOutOfBoundsException, NoSuchElementException",
        "int setHandicap(int, int, int) throws IllegalArgumentException",
        "int average(int) throws IndexOutOfBoundsException, NoSuchElementException",
        "int handicap(int) throws IndexOutOfBoundsException",
        "int team(int, int) throws IndexOutOfBoundsException, IllegalArgumentException,"
            + " UnsupportedOperationException, IllegalStateException",
        "int match(int, int, int) throws IndexOutOfBoundsException, IllegalArgumentException,"
            + " UnsupportedOperationException, IllegalStateException",
        "int points(int) throws IndexOutOfBoundsException",
        "int ranked(int) throws IndexOutOfBoundsException",
        "int champion(int) throws IllegalArgumentException, NoSuchElementException",
        "int pay(int, int) throws IndexOutOfBoundsException, IllegalArgumentException",
        "int tries(int, int) throws IndexOutOfBoundsException, IllegalArgumentException,"
            + " UnsupportedOperationException",
        "int purse(int) throws IndexOutOfBoundsException",
        "long pins()",
        "float strikeShare() throws ArithmeticException",
        "double meanScore() throws ArithmeticException",
        "boolean isSound()",
    };

    public static void main(String[] args) {
        face();
        members();
        classesInside();
        CHECKS.end();
    }

    private static void face() {
        List<String> due = new ArrayList<>(Arrays.asList(FACE));
        List<String> got = new ArrayList<>();
        for (Method m : PinHall.class.getDeclaredMethods()) {
            if (Modifier.isPublic(m.getModifiers())) {
                got.add(m.getReturnType() + " " + m.getName() + "(" + names(m.getParameterTypes()) + ")"
                        + (m.getExceptionTypes().length == 0 ? "" : " throws " + names(m.getExceptionTypes())));
            }
        }
        Collections.sort(due);
        Collections.sort(got);
        CHECKS.due("the face", got, due);
        CHECKS.due("the class", Modifier.toString(PinHall.class.getModifiers()), "public final");
        Constructor<?>[] made = PinHall.class.getDeclaredConstructors();
        CHECKS.due("1: one constructor", made.length, 1);
        CHECKS.due("1: public, without arguments", Modifier.isPublic(made[0].getModifiers())
                && made[0].getParameterCount() == 0, true);
    }

    private static String names(Class<?>[] types) {
        StringBuilder all = new StringBuilder();
        for (Class<?> t : types) {
            all.append(all.length() == 0 ? "" : ", ").append(t.getSimpleName());
        }
        return all.toString();
    }

    private static void members() {
        List<String> faceNames = new ArrayList<>();
        for (Method m : PinHall.class.getDeclaredMethods()) {
            if (Modifier.isPublic(m.getModifiers())) {
                faceNames.add(m.getName());
            }
        }
        for (Method m : PinHall.class.getDeclaredMethods()) {
            int how = m.getModifiers();
            CHECKS.due("rule 1: " + m, Modifier.isPublic(how)
                    || Modifier.isPrivate(how) && !faceNames.contains(m.getName()), true);
        }
        for (Field f : PinHall.class.getDeclaredFields()) {
            CHECKS.due("rule 1: " + f, Modifier.isPrivate(f.getModifiers()), true);
        }
        for (Class<?> c : PinHall.class.getDeclaredClasses()) {
            for (Method m : c.getDeclaredMethods()) {
                CHECKS.due("rule 1: " + m, faceNames.contains(m.getName()), false);
            }
        }
    }

    private static void classesInside() {
        List<Class<?>> all = new ArrayList<>(Arrays.asList(PinHall.class.getDeclaredClasses()));
        CHECKS.due("rule 11: classes", all.size() < 12, true);
        for (Class<?> c : all) {
            int how = c.getModifiers();
            CHECKS.due("rule 2: " + c, Modifier.isStatic(how) && !Modifier.isPublic(how)
                    && !Modifier.isProtected(how), true);
        }
        all.add(PinHall.class);
        for (Class<?> c : all) {
            int fields = 0;
            for (Field f : c.getDeclaredFields()) {
                boolean isStatic = Modifier.isStatic(f.getModifiers());
                fields += isStatic ? 0 : 1;
                CHECKS.due("rule 5: " + f, !isStatic || Modifier.isFinal(f.getModifiers()), true);
            }
            CHECKS.due("rule 11: fields of " + c, fields <= 20, true);
            for (Method m : c.getDeclaredMethods()) {
                CHECKS.due("rule 11: parameters of " + m, m.getParameterCount() <= 7, true);
            }
        }
    }
}
