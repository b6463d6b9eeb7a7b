import java.lang.reflect.Constructor;
import java.lang.reflect.Field;
import java.lang.reflect.Method;
import java.lang.reflect.Modifier;
import java.util.Arrays;
import java.util.TreeSet;

/** The public face, to the letter; and that nothing else of the class can be seen. */
public final class FaceTest {
    private static final String[] FACE = {"set 3", "law 2", "say 1", "wipe 0", "fault 1", "sits 1", "sit 0",
        "matter 3", "about 2", "clear 0", "least 1", "dealt 2", "lend 3", "net 1", "gifts 0", "filled 2", "lie 0",
        "floor 1", "friends 2", "image 1", "restore 1", "told 1"};
    private static final int MOST_FIELDS = 20;

    public static void main(String[] args) throws ReflectiveOperationException {
        Class<?> face = SilentCouncil.class;
        Due.part("the face");
        Due.holds("it is public and final and nothing else",
            face.getModifiers() == (Modifier.PUBLIC | Modifier.FINAL));
        Due.holds("it extends nothing", face.getSuperclass() == Object.class);
        Due.is("interfaces", face.getInterfaces().length, 0);
        constants(face);
        methods(face);
        classes(face);
        Constructor<?>[] makers = face.getDeclaredConstructors();
        Due.is("constructors", makers.length, 1);
        Due.holds("it is public", Modifier.isPublic(makers[0].getModifiers()));
        Due.is("its arguments", makers[0].getParameterCount(), 0);
        Due.is("what it throws", makers[0].getExceptionTypes().length, 0);
        Due.end("FaceTest");
    }

    private static void constants(Class<?> face) throws ReflectiveOperationException {
        String[] names = {"NONE", "UNKNOWN", "OUTSIDE", "STATE", "FULL", "NO"};
        int[] values = {-6, -1, -2, -3, -4, -5};
        TreeSet<String> due = new TreeSet<>(Arrays.asList(names));
        for (int n = 0; n < names.length; n++) {
            Field field = face.getDeclaredField(names[n]);
            Due.holds(names[n] + " is public static final",
                field.getModifiers() == (Modifier.PUBLIC | Modifier.STATIC | Modifier.FINAL));
            Due.holds(names[n] + " is an int", field.getType() == int.class);
            Due.is(names[n], field.getInt(null), values[n]);
        }
        for (Field field : face.getDeclaredFields()) {
            boolean own = Modifier.isPrivate(field.getModifiers());
            Due.holds(field.getName() + " is final", Modifier.isFinal(field.getModifiers()));
            Due.holds(field.getName() + " is private, or one of the face", own != due.contains(field.getName()));
        }
    }

    /** Classes inside are private or package-visible, and static; what they hold for all is final. */
    private static void classes(Class<?> face) {
        for (Class<?> inside : face.getDeclaredClasses()) {
            int kind = inside.getModifiers();
            Due.holds(inside + " can not be seen", !Modifier.isPublic(kind) && !Modifier.isProtected(kind));
            Due.holds(inside + " is static", Modifier.isStatic(kind));
            int fields = 0;
            for (Field field : inside.getDeclaredFields()) {
                boolean shared = Modifier.isStatic(field.getModifiers());
                fields += shared ? 0 : 1;
                Due.holds(inside + "'s " + field.getName() + " is no static state",
                    !shared || Modifier.isFinal(field.getModifiers()));
            }
            Due.holds(inside + " has " + fields + " fields", fields <= MOST_FIELDS);
        }
    }

    private static void methods(Class<?> face) {
        TreeSet<String> due = new TreeSet<>(Arrays.asList(FACE));
        TreeSet<String> names = new TreeSet<>();
        for (String method : FACE) {
            names.add(method.split(" ")[0]);
        }
        for (Method method : face.getDeclaredMethods()) {
            String told = method.getName() + " " + method.getParameterCount();
            if (Modifier.isPrivate(method.getModifiers())) {
                Due.holds("no private " + told, !names.contains(method.getName()));
            } else {
                Due.holds("a method of the face: " + told, due.remove(told));
                Due.holds(told + " answers int", method.getReturnType() == int.class);
                Due.holds(told + " is public", Modifier.isPublic(method.getModifiers()));
                Due.holds(told + " is the object's", !Modifier.isStatic(method.getModifiers()));
                Due.is(told + " throws", method.getExceptionTypes().length, 0);
                for (Class<?> argument : method.getParameterTypes()) {
                    Due.holds(told + " takes int", argument == int.class);
                }
            }
        }
        Due.holds("missing: " + due, due.isEmpty());
    }
}
