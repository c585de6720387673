import java.lang.reflect.Constructor;
import java.lang.reflect.Field;
import java.lang.reflect.Method;
import java.lang.reflect.Modifier;
import java.util.ArrayList;
import java.util.HashSet;
import java.util.List;
import java.util.Set;
import java.util.TreeSet;

/** The public face: just what the document has, and nothing else that can be seen from outside. */
final class FaceTest {
    private static final String[] FACE = {
        "now int", "figure int int int", "known int int int", "mark int int boolean", "feed long", "end int",
        "text", "fault", "teller int int", "tells int int int int", "weight int int int int int",
        "miss int int int int", "misses int int int int int int", "best int int int int",
        "fit int int int int int int", "span int int int int int int", "hold int int int int int int",
        "going int int int int int int int", "agree long int int int", "number int int int int int int int int",
        "worth int int int int int", "dealt int int int int int int", "change int int int",
        "note int int int int", "noteOf int int", "acted int", "notes int", "sheet int int int", "lay int int int",
        "read int int int int int int", "torn", "count int"};

    private FaceTest() {
    }

    public static void main(String[] args) throws IllegalAccessException {
        Due due = new Due("FaceTest");
        Class<?> face = NextFigures.class;
        due.holds("public and final", Modifier.isPublic(face.getModifiers()) && Modifier.isFinal(face.getModifiers()));
        due.holds("no class above it", face.getSuperclass() == Object.class && face.getInterfaces().length == 0);
        methods(due, face);
        fields(due, face);
        Constructor<?>[] made = face.getDeclaredConstructors();
        due.holds("one constructor", made.length == 1 && Modifier.isPublic(made[0].getModifiers())
            && made[0].getParameterCount() == 0);
        due.holds("some twelve classes", face.getDeclaredClasses().length < 12);
        for (Class<?> inside : face.getDeclaredClasses()) {
            due.holds(inside + " is private and static",
                Modifier.isPrivate(inside.getModifiers()) && Modifier.isStatic(inside.getModifiers()));
            due.holds(inside + " has some twenty fields", fieldsOf(inside) <= 20);
        }
        due.holds("some twenty fields", fieldsOf(face) <= 20);
        due.end();
    }

    private static void methods(Due due, Class<?> face) {
        Set<String> seen = new TreeSet<>();
        Set<String> names = new HashSet<>();
        for (Method m : face.getDeclaredMethods()) {
            if (!Modifier.isPrivate(m.getModifiers())) {
                StringBuilder told = new StringBuilder(m.getName());
                for (Class<?> type : m.getParameterTypes()) {
                    told.append(' ').append(type.getName());
                }
                due.holds(m + " is public and answers an int", Modifier.isPublic(m.getModifiers())
                    && !Modifier.isStatic(m.getModifiers()) && m.getReturnType() == int.class);
                seen.add(told.toString());
                names.add(m.getName());
            }
        }
        due.holds("the methods are " + seen, seen.equals(new TreeSet<>(List.of(FACE))));
        List<Class<?>> all = new ArrayList<>(List.of(face.getDeclaredClasses()));
        all.add(face);
        for (Class<?> one : all) {
            for (Method m : one.getDeclaredMethods()) {
                boolean isOfFace = one == face && Modifier.isPublic(m.getModifiers());
                due.holds(m + " bears a name of its own", isOfFace || !names.contains(m.getName()));
                due.holds(m + " takes at most seven", isOfFace || m.getParameterCount() <= 7);
            }
        }
    }

    private static void fields(Due due, Class<?> face) throws IllegalAccessException {
        Set<String> seen = new TreeSet<>();
        for (Field f : face.getDeclaredFields()) {
            if (!Modifier.isPrivate(f.getModifiers())) {
                due.holds(f + " is a constant", Modifier.isPublic(f.getModifiers())
                    && Modifier.isStatic(f.getModifiers()) && Modifier.isFinal(f.getModifiers()));
                seen.add(f.getName() + f.getInt(null));
            }
            due.holds(f + " is no static state", !Modifier.isStatic(f.getModifiers())
                || Modifier.isFinal(f.getModifiers()));
        }
        due.holds("the constants are " + seen, seen.equals(Set.of("BAD-1", "STATE-2", "FULL-3", "NONE-4")));
    }

    private static int fieldsOf(Class<?> one) {
        int found = 0;
        for (Field f : one.getDeclaredFields()) {
            found += Modifier.isStatic(f.getModifiers()) ? 0 : 1;
        }
        return found;
    }
}
