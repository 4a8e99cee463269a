import java.lang.reflect.Constructor;
import java.lang.reflect.Field;
import java.lang.reflect.Method;
import java.lang.reflect.Modifier;
import java.util.Arrays;
import java.util.HashSet;
import java.util.Set;
import java.util.TreeSet;

/** The public face, and nothing beside it. */
public final class FaceTest {
    private static final String[] METHODS = {
        "int about(int)", "int again(int)", "int census()", "long chance(int,int,int,boolean)", "int die(int)",
        "int fault()", "int forgotten(int)", "int go(int,int)", "int keep(int)", "int law(int)", "int leave(int,int)",
        "int lie(int,int)", "int person(int,int)", "int retold(int,int,int,int)", "int rumour(int,int)",
        "int spans(int,int,int)", "int toAsk(int,int)", "int town(int,int)", "int undo()", "int wipe()",
        "int write(int,long)", "int year()"};

    public static void main(String[] args) {
        Due due = new Due("FaceTest");
        due.due("UNKNOWN", CountedMissing.UNKNOWN, -1);
        due.due("BAD", CountedMissing.BAD, -2);
        due.due("LATE", CountedMissing.LATE, -3);
        due.due("FULL", CountedMissing.FULL, -4);
        due.due("NONE", CountedMissing.NONE, -9);
        Class<?> face = CountedMissing.class;
        due.holds("public and final", face.getModifiers() == (Modifier.PUBLIC | Modifier.FINAL));
        methods(due, face);
        fields(due, face);
        Constructor<?>[] made = face.getDeclaredConstructors();
        due.holds("one public constructor without parameters", made.length == 1
                && made[0].getModifiers() == Modifier.PUBLIC && made[0].getParameterCount() == 0);
        for (Class<?> inside : face.getDeclaredClasses()) {
            due.holds(inside.getName() + " is static", Modifier.isStatic(inside.getModifiers()));
            due.holds(inside.getName() + " is not public", !Modifier.isPublic(inside.getModifiers()));
        }
        due.end();
    }

    private static void methods(Due due, Class<?> face) {
        Set<String> open = new TreeSet<>();
        Set<String> openNames = new HashSet<>();
        for (Method method : face.getDeclaredMethods()) {
            if (!Modifier.isPrivate(method.getModifiers())) {
                due.holds(method.getName() + " is public alone", method.getModifiers() == Modifier.PUBLIC);
                open.add(signature(method));
                openNames.add(method.getName());
            }
        }
        due.holds("the methods of the face: " + open, open.equals(new TreeSet<>(Arrays.asList(METHODS))));
        for (Method method : face.getDeclaredMethods()) {
            if (Modifier.isPrivate(method.getModifiers())) {
                due.holds("private " + method.getName() + " has a name of its own",
                        !openNames.contains(method.getName()));
            }
        }
    }

    private static String signature(Method method) {
        StringBuilder text = new StringBuilder();
        text.append(method.getReturnType().getName()).append(' ').append(method.getName()).append('(');
        for (Class<?> parameter : method.getParameterTypes()) {
            text.append(text.charAt(text.length() - 1) == '(' ? "" : ",").append(parameter.getName());
        }
        return text.append(')').toString();
    }

    private static void fields(Due due, Class<?> face) {
        Set<String> open = new TreeSet<>();
        for (Field field : face.getDeclaredFields()) {
            if (!Modifier.isPrivate(field.getModifiers())) {
                open.add(field.getName());
                due.holds(field.getName() + " is a public constant",
                        field.getModifiers() == (Modifier.PUBLIC | Modifier.STATIC | Modifier.FINAL));
            }
            due.holds(field.getName() + " is final if static",
                    !Modifier.isStatic(field.getModifiers()) || Modifier.isFinal(field.getModifiers()));
        }
        due.holds("the constants of the face: " + open,
                open.equals(new TreeSet<>(Arrays.asList("BAD", "FULL", "LATE", "NONE", "UNKNOWN"))));
    }
}
