import java.lang.reflect.Constructor;
import java.lang.reflect.Field;
import java.lang.reflect.Method;
import java.lang.reflect.Modifier;
import java.util.ArrayList;
import java.util.Arrays;
import java.util.List;
import java.util.TreeSet;

/** The public face is the document's, no more and no less. */
public final class FaceTest {
    private static final String[] METHODS = {
        "loaf 2 []", "shelf 2 [NegativeArraySizeException]", "out 1 []", "rest 2 [IllegalStateException]",
        "fold 1 []", "lay 3 [NullPointerException, ArrayIndexOutOfBoundsException]", "bake 2 []",
        "worth 1 [ArithmeticException]", "cost 1 [ArithmeticException]", "change 2 [ArithmeticException]",
        "fire 1 []", "night 1 []", "at 2 []", "places 1 []", "tell 2 []", "book 1 []", "count 1 []",
    };

    public static void main(String[] args) {
        Due due = new Due("FaceTest");
        due.answer("UNKNOWN", -101, () -> BakeHouse.UNKNOWN);
        due.answer("OUTSIDE", -102, () -> BakeHouse.OUTSIDE);
        due.answer("STATE", -103, () -> BakeHouse.STATE);
        due.answer("ROOM", -104, () -> BakeHouse.ROOM);
        due.answer("NONE", -1, () -> BakeHouse.NONE);
        due.holds("the class is public and final",
            Modifier.isPublic(BakeHouse.class.getModifiers()) && Modifier.isFinal(BakeHouse.class.getModifiers()));
        methods(due);
        fields(due);
        Constructor<?>[] made = BakeHouse.class.getDeclaredConstructors();
        due.holds("one constructor, public, of no arguments",
            made.length == 1 && Modifier.isPublic(made[0].getModifiers()) && made[0].getParameterCount() == 0);
        for (Class<?> inside : BakeHouse.class.getDeclaredClasses()) {
            int is = inside.getModifiers();
            due.holds(inside + " is static and not public",
                Modifier.isStatic(is) && !Modifier.isPublic(is) && !Modifier.isProtected(is));
        }
        due.end();
    }

    private static void methods(Due due) {
        TreeSet<String> seen = new TreeSet<>();
        TreeSet<String> hidden = new TreeSet<>();
        for (Method m : BakeHouse.class.getDeclaredMethods()) {
            if (Modifier.isPrivate(m.getModifiers())) {
                hidden.add(m.getName());
                continue;
            }
            List<String> thrown = new ArrayList<>();
            for (Class<?> e : m.getExceptionTypes()) {
                thrown.add(e.getSimpleName());
            }
            boolean ints = Arrays.stream(m.getParameterTypes()).allMatch(t -> t == int.class);
            due.holds(m + " is public, no static one, and of ints", Modifier.isPublic(m.getModifiers())
                && !Modifier.isStatic(m.getModifiers()) && ints && m.getReturnType() == int.class);
            seen.add(m.getName() + " " + m.getParameterCount() + " " + thrown);
        }
        due.holds("the methods are the document's: " + seen, seen.equals(new TreeSet<>(Arrays.asList(METHODS))));
        for (String face : METHODS) {
            String name = face.substring(0, face.indexOf(' '));
            due.holds("no private method is named " + name, !hidden.contains(name));
        }
    }

    private static void fields(Due due) {
        TreeSet<String> seen = new TreeSet<>();
        for (Field f : BakeHouse.class.getDeclaredFields()) {
            if (!Modifier.isPrivate(f.getModifiers())) {
                due.holds(f + " is a public constant of int", f.getType() == int.class
                    && Modifier.isPublic(f.getModifiers()) && Modifier.isStatic(f.getModifiers())
                    && Modifier.isFinal(f.getModifiers()));
                seen.add(f.getName());
            }
        }
        due.holds("the constants are the document's: " + seen,
            seen.equals(new TreeSet<>(Arrays.asList("UNKNOWN", "OUTSIDE", "STATE", "ROOM", "NONE"))));
    }
}
