import java.lang.reflect.Constructor;
import java.lang.reflect.Field;
import java.lang.reflect.Method;
import java.lang.reflect.Modifier;
import java.util.Arrays;
import java.util.TreeSet;

/** The public face, to the letter, and nothing beside it that others could see. */
public final class FaceTest {
    private static final String[] METHODS = {
        "int shaft 3", "int ring 4", "long speed 2", "int parts 0", "int part 2", "long tone 3",
        "int mark 1", "int unmark 0", "int turns 0", "int turn 1", "int sheet 4", "int drop 1",
        "int item 4", "int cut 3", "int mean 1", "long strength 1",
        "int line 2", "int unline 0", "int slip 1", "int explains 1", "int named 1", "int heap 1",
        "int strange 0", "int laws 3", "int reading 2", "int baseline 1", "int warned 1", "int repair 0"};

    public static void main(String[] args) {
        Due due = new Due();
        due.is("BAD", WornRings.BAD, -1);
        due.is("NOT", WornRings.NOT, -2);
        due.is("FULL", WornRings.FULL, -3);
        due.is("NONE", WornRings.NONE, -4);
        due.is("NULL", WornRings.NULL, -11);
        due.is("CAST", WornRings.CAST, -12);
        due.is("INDEX", WornRings.INDEX, -13);
        due.is("SIZE", WornRings.SIZE, -14);
        int kind = WornRings.class.getModifiers();
        due.holds("the class is public and final", Modifier.isPublic(kind) && Modifier.isFinal(kind));
        methods(due);
        fields(due);
        insides(due);
        due.end();
    }

    private static void methods(Due due) {
        TreeSet<String> seen = new TreeSet<>();
        TreeSet<String> names = new TreeSet<>();
        for (Method m : WornRings.class.getDeclaredMethods()) {
            if (Modifier.isPrivate(m.getModifiers())) {
                continue;
            }
            due.holds(m + " is public and not static",
                Modifier.isPublic(m.getModifiers()) && !Modifier.isStatic(m.getModifiers()));
            for (Class<?> p : m.getParameterTypes()) {
                due.holds(m + " takes ints", p == int.class);
            }
            seen.add(m.getReturnType().getName() + " " + m.getName() + " " + m.getParameterCount());
            names.add(m.getName());
        }
        due.holds("the methods are " + seen, seen.equals(new TreeSet<>(Arrays.asList(METHODS))));
        for (Method m : WornRings.class.getDeclaredMethods()) {
            due.holds(m + " bears its own name", !Modifier.isPrivate(m.getModifiers()) || !names.contains(m.getName()));
        }
        for (Class<?> inside : WornRings.class.getDeclaredClasses()) {
            for (Method m : inside.getDeclaredMethods()) {
                due.holds(m + " bears its own name", !names.contains(m.getName()));
            }
        }
    }

    private static void fields(Due due) {
        int open = 0;
        for (Field f : WornRings.class.getDeclaredFields()) {
            int m = f.getModifiers();
            if (Modifier.isPublic(m)) {
                open++;
                due.holds(f + " is a constant", Modifier.isStatic(m) && Modifier.isFinal(m) && f.getType() == int.class);
            } else {
                due.holds(f + " is private", Modifier.isPrivate(m));
                due.holds(f + " is final if it is static", !Modifier.isStatic(m) || Modifier.isFinal(m));
            }
        }
        due.is("public constants", open, 8);
        Constructor<?>[] made = WornRings.class.getDeclaredConstructors();
        due.is("constructors", made.length, 1);
        due.holds("the constructor is public and takes nothing",
            Modifier.isPublic(made[0].getModifiers()) && made[0].getParameterCount() == 0);
    }

    private static void insides(Due due) {
        Class<?>[] insides = WornRings.class.getDeclaredClasses();
        due.holds("at most twelve classes", insides.length < 12);
        for (Class<?> inside : insides) {
            int m = inside.getModifiers();
            due.holds(inside + " is static", Modifier.isStatic(m));
            due.holds(inside + " is hidden", !Modifier.isPublic(m) && !Modifier.isProtected(m));
        }
    }
}
