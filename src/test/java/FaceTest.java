import java.lang.reflect.Constructor;
import java.lang.reflect.Field;
import java.lang.reflect.Method;
import java.lang.reflect.Modifier;
import java.util.Arrays;
import java.util.TreeSet;

/** The public face, to the letter; and that nothing else of the class can be seen. */
public final class FaceTest {
    private static final String[] FACE = {"set 3", "law 2", "say 1", "wipe 0", "fault 1", "sits 1", "sit 0",
        "matter 3", "about 2", "clear 0", "least 1", "dealt 2", "lend 3", "net 1", "gifts 0", "filled 2", "lie 0",
        "floor 1", "friends 2", "image 1", "restore 1", "told 1"};

    public static void main(String[] args) throws ReflectiveOperationException {
        Class<?> face = SilentCouncil.class;
        Due.part("the face");
        Due.holds("it is final", Modifier.isFinal(face.getModifiers()));
        Due.is("NONE", SilentCouncil.NONE, -6);
        Due.is("UNKNOWN", SilentCouncil.UNKNOWN, -1);
        Due.is("OUTSIDE", SilentCouncil.OUTSIDE, -2);
        Due.is("STATE", SilentCouncil.STATE, -3);
        Due.is("FULL", SilentCouncil.FULL, -4);
        Due.is("NO", SilentCouncil.NO, -5);
        methods(face);
        int constants = 0;
        for (Field field : face.getDeclaredFields()) {
            boolean own = Modifier.isPrivate(field.getModifiers());
            Due.holds(field.getName() + " is final", Modifier.isFinal(field.getModifiers()));
            constants += own ? 0 : 1;
        }
        Due.is("constants", constants, 6);
        Constructor<?>[] makers = face.getDeclaredConstructors();
        Due.is("constructors", makers.length, 1);
        Due.holds("it is public", Modifier.isPublic(makers[0].getModifiers()));
        Due.is("its arguments", makers[0].getParameterCount(), 0);
        Due.end("FaceTest");
    }

    private static void methods(Class<?> face) {
        TreeSet<String> due = new TreeSet<>(Arrays.asList(FACE));
        TreeSet<String> names = new TreeSet<>();
        for (String method : FACE) {
            names.add(method.split(" ")[0]);
        }
        for (Method method : face.getDeclaredMethods()) {
            String told = method.getName() + " " + method.getParameterCount();
            if (Modifier.isPrivate(method.getModifiers())) {
                Due.holds("no private " + told, !names.contains(method.getName()));
            } else {
                Due.holds("a method of the face: " + told, due.remove(told));
                Due.holds(told + " answers int", method.getReturnType() == int.class);
                Due.holds(told + " is public", Modifier.isPublic(method.getModifiers()));
                Due.holds(told + " is the object's", !Modifier.isStatic(method.getModifiers()));
                for (Class<?> argument : method.getParameterTypes()) {
                    Due.holds(told + " takes int", argument == int.class);
                }
            }
        }
        Due.holds("missing: " + due, due.isEmpty());
    }
}
