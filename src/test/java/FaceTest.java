import java.lang.reflect.Constructor;
import java.lang.reflect.Field;
import java.lang.reflect.Method;
import java.lang.reflect.Modifier;
import java.util.Arrays;
import java.util.Set;
import java.util.TreeSet;

/** The public face: just what the document has, and nothing else that another class could reach. */
public final class FaceTest {
    private static final String[] METHODS = {
        "int letter(int)", "int blank()", "int fault()", "int lane()", "int house(int,int)", "int as(int,int)",
        "int reaches(int,int)", "int wet(int)", "int year()", "int rain(int)", "int cheer(int)", "int comb(int)",
        "int move(int,int,int)", "int dry(int,int)", "int plan(int,int,int)", "int twos(int)", "int patch(int,int,int)",
        "int odds(int,int,int)", "int see(int,int,int)", "int forget()", "int ages(int,int,int)", "int image()",
        "int restore()", "int count(int)", "long digest()"};

    private static final Checks c = new Checks("FaceTest");

    public static void main(String[] args) throws Exception {
        theClass();
        constants();
        methods();
        inside();
        c.end();
    }

    private static void theClass() {
        Class<?> face = ThatchLane.class;
        c.due("public final class", face.getModifiers(), Modifier.PUBLIC | Modifier.FINAL);
        c.holds("no package", face.getPackageName().isEmpty());
        c.holds("nothing above it", face.getSuperclass() == Object.class && face.getInterfaces().length == 0);
        Constructor<?>[] made = face.getDeclaredConstructors();
        c.due("one constructor", made.length, 1);
        c.due("public", made[0].getModifiers(), Modifier.PUBLIC);
        c.due("of nothing", made[0].getParameterCount(), 0);
        c.due("throwing nothing", made[0].getExceptionTypes().length, 0);
    }

    private static void constants() throws Exception {
        Set<String> names = new TreeSet<>();
        for (Field field : ThatchLane.class.getDeclaredFields()) {
            int signs = field.getModifiers();
            if (!Modifier.isPrivate(signs)) {
                names.add(field.getName());
                c.due(field.getName(), signs, Modifier.PUBLIC | Modifier.STATIC | Modifier.FINAL);
                c.holds(field.getName() + " is an int", field.getType() == int.class);
            }
        }
        c.holds("constants " + names, names.equals(Set.of("NONE", "UNKNOWN", "OUTSIDE", "STATE", "FULL")));
        c.due("NONE", ThatchLane.NONE, -1);
        c.due("UNKNOWN", ThatchLane.UNKNOWN, -101);
        c.due("OUTSIDE", ThatchLane.OUTSIDE, -102);
        c.due("STATE", ThatchLane.STATE, -103);
        c.due("FULL", ThatchLane.FULL, -104);
    }

    private static String told(Method method) {
        StringBuilder text = new StringBuilder(method.getReturnType().getName());
        text.append(' ').append(method.getName()).append('(');
        String comma = "";
        for (Class<?> of : method.getParameterTypes()) {
            text.append(comma).append(of.getName());
            comma = ",";
        }
        return text.append(')').toString();
    }

    private static void methods() {
        Set<String> open = new TreeSet<>();
        for (Method method : ThatchLane.class.getDeclaredMethods()) {
            if (!Modifier.isPrivate(method.getModifiers())) {
                open.add(told(method));
                c.due(told(method), method.getModifiers(), Modifier.PUBLIC);
                c.due(told(method) + " throws", method.getExceptionTypes().length, 0);
            }
        }
        c.holds("the methods are " + open, open.equals(new TreeSet<>(Arrays.asList(METHODS))));
    }

    /** No other method bears the name of a public one, classes inside are static and not open, no state is static. */
    private static void inside() {
        Set<String> names = new TreeSet<>();
        for (String method : METHODS) {
            names.add(method.substring(method.indexOf(' ') + 1, method.indexOf('(')));
        }
        closed(ThatchLane.class, names);
        Class<?>[] classes = ThatchLane.class.getDeclaredClasses();
        c.holds("some twelve classes", classes.length <= 12);
        for (Class<?> one : classes) {
            int signs = one.getModifiers();
            c.holds(one.getName() + " is static", Modifier.isStatic(signs));
            c.holds(one.getName() + " is not open", !Modifier.isPublic(signs) && !Modifier.isProtected(signs));
            closed(one, names);
        }
    }

    private static void closed(Class<?> one, Set<String> names) {
        int fields = 0;
        for (Field field : one.getDeclaredFields()) {
            if (Modifier.isStatic(field.getModifiers())) {
                c.holds(field + " is final", Modifier.isFinal(field.getModifiers()));
            } else {
                fields++;
                c.holds(field + " is private", Modifier.isPrivate(field.getModifiers()));
            }
        }
        c.holds(one.getName() + " has some twenty fields", fields <= 20);
        for (Method method : one.getDeclaredMethods()) {
            boolean face = one == ThatchLane.class && Modifier.isPublic(method.getModifiers());
            c.holds(method + " has a name of its own", face || !names.contains(method.getName()));
            c.holds(method + " has at most seven parameters", method.getParameterCount() <= 7);
        }
    }
}
