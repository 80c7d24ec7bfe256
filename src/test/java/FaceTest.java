import java.lang.reflect.Constructor;
import java.lang.reflect.Field;
import java.lang.reflect.Method;
import java.lang.reflect.Modifier;
import java.util.Arrays;
import java.util.List;
import java.util.TreeSet;

/** The public face as the document tells it, and nothing beside it that others can see. */
public final class FaceTest {
    private static final String[] FACE = {
        "row int int int", "set int int int", "copy int int int int int", "drop int", "feed long int", "field", "fault",
        "say int int", "talk int int int", "undo", "house int int", "cell int", "lies int int int int",
        "guess int int int int", "wanted int int int", "brook int", "image int", "restore int", "kind int", "as int int",
        "ask int int", "trace int", "count int", "status"};

    public static void main(String[] args) {
        constants();
        methods();
        members();
        Check.end();
    }

    private static void constants() {
        Check.due("NONE", LieSlides.NONE, -1000000);
        Check.due("BAD", LieSlides.BAD, -1000001);
        Check.due("STATE", LieSlides.STATE, -1000002);
        Check.due("FULL", LieSlides.FULL, -1000003);
        Check.due("the class is public and final", LieSlides.class.getModifiers() & (Modifier.PUBLIC | Modifier.FINAL),
            Modifier.PUBLIC | Modifier.FINAL);
        Constructor<?>[] all = LieSlides.class.getDeclaredConstructors();
        Check.due("constructors", all.length, 1);
        Check.due("it is public, without parameters", all[0].getModifiers() + all[0].getParameterCount(), Modifier.PUBLIC);
    }

    private static String told(Method m) {
        StringBuilder text = new StringBuilder(m.getName());
        for (Class<?> type : m.getParameterTypes()) {
            text.append(' ').append(type.getName());
        }
        return text.toString();
    }

    private static void methods() {
        TreeSet<String> seen = new TreeSet<>();
        TreeSet<String> names = new TreeSet<>();
        for (Method m : LieSlides.class.getDeclaredMethods()) {
            if (!Modifier.isPrivate(m.getModifiers())) {
                seen.add(told(m));
                names.add(m.getName());
                Check.due(m.getName() + " is public alone", m.getModifiers(), Modifier.PUBLIC);
                Check.due(m.getName() + " answers an int", m.getReturnType() == int.class ? 1 : 0, 1);
            }
        }
        Check.due("the face: " + seen, seen.equals(new TreeSet<>(Arrays.asList(FACE))) ? 1 : 0, 1);
        for (Class<?> c : allClasses()) {
            for (Method m : c.getDeclaredMethods()) {
                if (c != LieSlides.class || Modifier.isPrivate(m.getModifiers())) {
                    Check.due(m + " bears no public name", names.contains(m.getName()) ? 1 : 0, 0);
                }
                Check.due(m + " has seven parameters at most", m.getParameterCount() <= 7 ? 1 : 0, 1);
            }
        }
    }

    private static Class<?>[] allClasses() {
        Class<?>[] inside = LieSlides.class.getDeclaredClasses();
        Class<?>[] all = Arrays.copyOf(inside, inside.length + 1);
        all[inside.length] = LieSlides.class;
        return all;
    }

    private static void members() {
        List<String> constants = List.of("NONE", "BAD", "STATE", "FULL");
        for (Field f : LieSlides.class.getDeclaredFields()) {
            boolean told = constants.contains(f.getName());
            Check.due(f + " is private, or told", Modifier.isPrivate(f.getModifiers()) != told ? 1 : 0, 1);
        }
        Class<?>[] all = allClasses();
        Check.due("twelve classes at most", all.length <= 12 ? 1 : 0, 1);
        for (Class<?> c : all) {
            int fields = 0;
            for (Field f : c.getDeclaredFields()) {
                boolean isStatic = Modifier.isStatic(f.getModifiers());
                fields += isStatic ? 0 : 1;
                Check.due(f + " is final, if static", isStatic && !Modifier.isFinal(f.getModifiers()) ? 1 : 0, 0);
            }
            Check.due(c + " has twenty fields at most", fields <= 20 ? 1 : 0, 1);
            Check.due(c + " is static, if inside", c == LieSlides.class || Modifier.isStatic(c.getModifiers()) ? 1 : 0, 1);
            int seen = c.getModifiers() & (Modifier.PUBLIC | Modifier.PROTECTED);
            Check.due(c + " is not seen, if inside", c == LieSlides.class ? 0 : seen, 0);
        }
    }
}
