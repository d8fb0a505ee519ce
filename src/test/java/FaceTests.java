import java.lang.reflect.Constructor;
import java.lang.reflect.Field;
import java.lang.reflect.Method;
import java.lang.reflect.Modifier;
import java.util.Arrays;
import java.util.List;
import java.util.Set;
import java.util.TreeSet;

/** The public face is the document's, and nothing else of the class can be seen. */
public final class FaceTests {
    private static final String[] FACE = {
        "int feed int int int int int", "boolean end int", "int fault int", "int text int", "int desk int",
        "int door int int", "int quarrel int int", "boolean set int int int", "int clerk int int",
        "boolean law int", "int let int int", "int move int int", "int undo", "int diary int",
        "int judge int int", "boolean wish int int", "int done", "int fewest int", "int cheapest",
        "int all int", "int count int", "int ill int", "int holds", "int sort", "int can",
        "boolean worth int int int", "int seated int", "int best int", "int gains int int",
        "int exchange int", "int agree int", "int vote int int", "int image", "int back", "int told int"};

    private static int wrong = 0;

    private static void hold(boolean holds, String what) {
        if (!holds) {
            wrong++;
            System.out.println("does not hold: " + what);
        }
    }

    private static String told(Method m) {
        StringBuilder s = new StringBuilder(m.getReturnType() + " " + m.getName());
        for (Class<?> p : m.getParameterTypes()) {
            s.append(' ').append(p);
        }
        return s.toString();
    }

    public static void main(String[] args) throws Exception {
        Class<?> c = DeskMoves.class;
        hold(Modifier.isPublic(c.getModifiers()) && Modifier.isFinal(c.getModifiers()), "public and final");
        Set<String> names = new TreeSet<>();
        Set<String> due = new TreeSet<>(Arrays.asList(FACE));
        Set<String> found = new TreeSet<>();
        for (String f : FACE) {
            names.add(f.split(" ")[1]);
        }
        for (Method m : c.getDeclaredMethods()) {
            if (Modifier.isPublic(m.getModifiers())) {
                found.add(told(m));
                hold(!Modifier.isStatic(m.getModifiers()), m + " is of an object");
            } else {
                hold(Modifier.isPrivate(m.getModifiers()), m + " is private");
                hold(!names.contains(m.getName()), m + " has a name of its own");
            }
        }
        hold(found.equals(due), "the methods are the document's: " + found);
        List<Class<?>> thrown = Arrays.asList(c.getMethod("desk", int.class).getExceptionTypes());
        hold(thrown.equals(List.of(java.util.NoSuchElementException.class)), "desk tells what it throws");
        for (Field f : c.getDeclaredFields()) {
            boolean constant = f.getName().equals("NONE") || f.getName().equals("HIDDEN");
            int wanted = constant ? Modifier.PUBLIC | Modifier.STATIC | Modifier.FINAL : Modifier.PRIVATE;
            hold((f.getModifiers() & wanted) == wanted, f + " is as it must be");
            hold(!Modifier.isStatic(f.getModifiers()) || Modifier.isFinal(f.getModifiers()), f + " is no static state");
        }
        hold(DeskMoves.NONE == -1 && DeskMoves.HIDDEN == -1000000, "the constants");
        Constructor<?>[] made = c.getDeclaredConstructors();
        hold(made.length == 1 && made[0].getParameterCount() == 0 && Modifier.isPublic(made[0].getModifiers()), "one constructor");
        hold(c.getDeclaredClasses().length <= 12, "some twelve classes");
        for (Class<?> inner : c.getDeclaredClasses()) {
            int mods = inner.getModifiers();
            hold(Modifier.isStatic(mods) && !Modifier.isPublic(mods) && !Modifier.isProtected(mods), inner + " is inside");
            for (Method m : inner.getDeclaredMethods()) {
                hold(!names.contains(m.getName()), m + " has a name of its own");
                hold(m.getParameterCount() <= 7, m + " takes at most seven");
            }
            int fields = 0;
            for (Field f : inner.getDeclaredFields()) {
                fields += Modifier.isStatic(f.getModifiers()) ? 0 : 1;
                hold(!Modifier.isStatic(f.getModifiers()) || Modifier.isFinal(f.getModifiers()), f + " is no static state");
            }
            hold(fields <= 20, inner + " has some twenty fields");
        }
        System.out.println(wrong == 0 ? "the face is the document's" : wrong + " do not hold");
        if (wrong != 0) {
            System.exit(1);
        }
    }
}
