import java.lang.reflect.Constructor;
import java.lang.reflect.Field;
import java.lang.reflect.Method;
import java.lang.reflect.Modifier;
import java.util.Arrays;
import java.util.List;
import java.util.Set;
import java.util.TreeSet;

/** The public face, and promise 1: a new object. */
public final class FaceTest {
    private static final List<String> METHODS = List.of(
            "int append(int,int,int,int,int)", "int load(int) IllegalArgumentException", "int errorOffset()",
            "int state(int) IllegalArgumentException",
            "int row(int,int) IndexOutOfBoundsException,IllegalArgumentException",
            "int tile(int,int) IndexOutOfBoundsException,NoSuchElementException",
            "int player(int,int) IndexOutOfBoundsException,IllegalArgumentException",
            "int letter(int,int,int) IndexOutOfBoundsException,NoSuchElementException",
            "boolean alike(int,int) IllegalArgumentException",
            "int rhyme(int,int,int) IndexOutOfBoundsException", "int why(int,int) IndexOutOfBoundsException",
            "int play(int,int,int) IndexOutOfBoundsException,IllegalArgumentException,NoSuchElementException",
            "int best()", "int chain(int,int) IndexOutOfBoundsException",
            "int worth(int,int) IndexOutOfBoundsException", "int fillings(int,int) IndexOutOfBoundsException",
            "int threats(int) IndexOutOfBoundsException", "int winner()", "int stepsToEnd()", "float covered()",
            "int lay(int,int) IndexOutOfBoundsException,IllegalStateException", "int pass() IllegalStateException",
            "int auto(int) IllegalArgumentException",
            "int give(int,int) IndexOutOfBoundsException,IllegalArgumentException,IllegalStateException",
            "int undo()", "long checksum()");

    public static void main(String[] args) {
        membersOfTheFace();
        constants();
        newObject();
        newObjectsAreApart();
        Check.end();
    }

    private static void membersOfTheFace() {
        Set<String> faced = new TreeSet<>(METHODS);
        Set<String> found = new TreeSet<>();
        for (Method m : RhymeRoofs.class.getDeclaredMethods()) {
            if (Modifier.isPrivate(m.getModifiers()) || m.isSynthetic()) {
                continue;
            }
            found.add(described(m));
        }
        Check.due("methods are those of the face, found " + found, found.equals(faced), true);
        Check.due("class is final", Modifier.isFinal(RhymeRoofs.class.getModifiers()), true);
        Constructor<?>[] made = RhymeRoofs.class.getDeclaredConstructors();
        Check.due("constructors", made.length, 1);
        Check.due("constructor is public", Modifier.isPublic(made[0].getModifiers()), true);
        int open = 0;
        for (Field f : RhymeRoofs.class.getDeclaredFields()) {
            if (!Modifier.isPrivate(f.getModifiers())) {
                open++;
            }
        }
        Check.due("fields that are not private", open, 5);
    }

    private static String described(Method m) {
        StringBuilder text = new StringBuilder();
        text.append(m.getReturnType().getName()).append(' ').append(m.getName()).append('(');
        text.append(String.join(",", Arrays.stream(m.getParameterTypes()).map(Class::getName).toList())).append(')');
        if (m.getExceptionTypes().length > 0) {
            text.append(' ');
            text.append(String.join(",", Arrays.stream(m.getExceptionTypes()).map(Class::getSimpleName).toList()));
        }
        return text.toString();
    }

    private static void constants() {
        Check.due("SYNTAX_ERROR", RhymeRoofs.SYNTAX_ERROR, -2);
        Check.due("OUT_OF_RANGE", RhymeRoofs.OUT_OF_RANGE, -3);
        Check.due("REPEATED", RhymeRoofs.REPEATED, -4);
        Check.due("TOO_MANY", RhymeRoofs.TOO_MANY, -5);
        Check.due("TOO_DEEP", RhymeRoofs.TOO_DEEP, -6);
    }

    private static void newObject() {
        RhymeRoofs x = new RhymeRoofs();
        int[] state = {1, 2, 2, 1, 5, 0, 0, 0, 0, 0, 0, 0};
        for (int what = 0; what < state.length; what++) {
            Check.due("new: state(" + what + ")", x.state(what), state[what]);
        }
        int[] row = {10, 10, 0, -1};
        for (int what = 0; what < row.length; what++) {
            Check.due("new: row(0, " + what + ")", x.row(0, what), row[what]);
        }
        for (int what = 0; what < 4; what++) {
            Check.due("new: player(0, " + what + ")", x.player(0, what), 0);
            Check.due("new: player(1, " + what + ")", x.player(1, what), 0);
        }
        for (int tile = 0; tile < 10; tile++) {
            Check.due("new: tile(0, " + tile + ")", x.tile(0, tile), -1);
        }
        Check.due("new: errorOffset", x.errorOffset(), -1);
        Check.due("new: undo", x.undo(), -1);
        Check.due("new: best", x.best(), -1);
        Check.due("new: stepsToEnd", x.stepsToEnd(), 2);
        Check.due("new: winner", x.winner(), 0);
        Check.dueFloat("new: covered", x.covered(), 0f);
        Check.dueIllegalArgument("new: load(1)", () -> x.load(1));
        Check.due("new: append", x.append(0, 0, 0, 0, 0), 20);
    }

    private static void newObjectsAreApart() {
        RhymeRoofs x = Check.loaded("roof 3;hand 0 abc;");
        RhymeRoofs y = new RhymeRoofs();
        x.lay(0, 0);
        Check.due("other object: row", y.row(0, 0), 10);
        Check.due("other object: words", y.state(8), 0);
    }
}
