import java.lang.reflect.Constructor;
import java.lang.reflect.Field;
import java.lang.reflect.Method;
import java.lang.reflect.Modifier;
import java.util.Arrays;
import java.util.TreeSet;

/** The public face, member by member, and promise 1. */
public final class FaceTest {
    private static final String[] METHODS = {
        "int append(int) IllegalArgumentException IllegalStateException",
        "int clearText()",
        "int errorPosition()",
        "int load() IllegalStateException",
        "int about(int) IllegalArgumentException",
        "int siteOf(int int) IndexOutOfBoundsException IllegalArgumentException",
        "int since(int int) IndexOutOfBoundsException",
        "int layerOf(int int int) IndexOutOfBoundsException IllegalArgumentException",
        "int tubeOf(int int) IndexOutOfBoundsException IllegalArgumentException",
        "int pipeOf(int int) IndexOutOfBoundsException IllegalArgumentException",
        "int layers(int int) IndexOutOfBoundsException IllegalArgumentException",
        "int oldest(int) IndexOutOfBoundsException",
        "int site() IllegalStateException",
        "int tube(int int) IndexOutOfBoundsException IllegalArgumentException IllegalStateException",
        "int pipe(int int) IndexOutOfBoundsException IllegalStateException",
        "int fence(int int) IndexOutOfBoundsException IllegalArgumentException",
        "int shovel(int) IndexOutOfBoundsException",
        "int days(int int int) IllegalArgumentException IllegalStateException",
        "int winter()",
        "int set(int int) IllegalArgumentException",
        "int undo() IllegalStateException",
        "int goneIn(int int) IndexOutOfBoundsException IllegalArgumentException",
        "int reachedIn(int int int) IndexOutOfBoundsException IllegalArgumentException",
        "int bestFence(int int int int) IndexOutOfBoundsException IllegalArgumentException",
        "int heaveIn(int int int) IndexOutOfBoundsException IllegalArgumentException",
        "int deepest()",
        "int runScript(int long) IllegalArgumentException",
        "int simulate(long int) IllegalArgumentException",
        "int save(int) IndexOutOfBoundsException",
        "int restore(int) IndexOutOfBoundsException IllegalStateException",
    };

    public static void main(String[] args) {
        membersAreTheFace();
        newObjectIsEmpty();
        Checks.finish("FaceTest");
    }

    private static void membersAreTheFace() {
        Class<?> face = FrostTubes.class;
        Checks.is("the class is public and final", Modifier.PUBLIC | Modifier.FINAL, face.getModifiers());
        TreeSet<String> publicOnes = new TreeSet<>();
        TreeSet<String> privateNames = new TreeSet<>();
        for (Method m : face.getDeclaredMethods()) {
            if (Modifier.isPrivate(m.getModifiers())) {
                privateNames.add(m.getName());
            } else {
                publicOnes.add(told(m));
            }
        }
        Checks.same("methods", new TreeSet<>(Arrays.asList(METHODS)).toString(), publicOnes.toString());
        for (String method : METHODS) {
            String name = method.substring(4, method.indexOf('('));
            Checks.is("no private method " + name, 0, privateNames.contains(name) ? 1 : 0);
        }
        for (Field f : face.getDeclaredFields()) {
            boolean constant = f.getName().equals("NONE");
            boolean open = !Modifier.isPrivate(f.getModifiers());
            Checks.is("only NONE is open, not " + f.getName(), constant ? 1 : 0, open ? 1 : 0);
        }
        Checks.is("NONE", -1, FrostTubes.NONE);
        Constructor<?>[] makers = face.getDeclaredConstructors();
        Checks.is("one constructor", 1, makers.length);
        Checks.is("it is public", Modifier.PUBLIC, makers[0].getModifiers());
        Checks.is("it takes nothing", 0, makers[0].getParameterCount());
    }

    private static String told(Method m) {
        StringBuilder told = new StringBuilder(m.getReturnType().getName());
        told.append(' ').append(m.getName()).append('(');
        String between = "";
        for (Class<?> type : m.getParameterTypes()) {
            told.append(between).append(type.getName());
            between = " ";
        }
        told.append(')');
        for (Class<?> type : m.getExceptionTypes()) {
            told.append(' ').append(type.getSimpleName());
        }
        return told.toString();
    }

    private static void newObjectIsEmpty() {
        FrostTubes x = new FrostTubes();
        int[] due = {0, 0, 0, 0, 0, 0, 0, 0, 0, 5, 2, 10};
        for (int what = 0; what < due.length; what++) {
            Checks.is("P1: about(" + what + ")", due[what], x.about(what));
        }
        Checks.refuses("P1: no site", Checks.INDEX, () -> x.siteOf(0, 0));
        Checks.refuses("P1: no tube", Checks.INDEX, () -> x.tubeOf(0, 0));
        Checks.refuses("P1: no pipe", Checks.INDEX, () -> x.pipeOf(0, 0));
        Checks.refuses("P1: nothing to undo", Checks.STATE, () -> x.undo());
        Checks.refuses("P1: slot 0 empty", Checks.STATE, () -> x.restore(0));
        Checks.refuses("P1: slot 1 empty", Checks.STATE, () -> x.restore(1));
        Checks.is("P1: the text is empty", 0, x.errorPosition());
        Checks.is("P1: the text is empty", 0, x.clearText());
        Checks.is("P1: a new site is 0", 0, x.site());
        int[] dueSite = {0, 0, 0, 0, 0, 0, 0, -1, 0};
        for (int what = 0; what < dueSite.length; what++) {
            Checks.is("P1: siteOf(0, " + what + ") of a new site", dueSite[what], x.siteOf(0, what));
        }
        FrostTubes other = new FrostTubes();
        Checks.is("P1: objects share nothing", 0, other.about(0));
    }
}
