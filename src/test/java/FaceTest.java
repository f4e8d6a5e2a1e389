import java.lang.reflect.Constructor;
import java.lang.reflect.Field;
import java.lang.reflect.Method;
import java.lang.reflect.Modifier;
import java.util.Set;
import java.util.TreeSet;

/** The public face of the document, and no other member that can be seen from outside. */
final class FaceTest {
    private static final Set<String> METHODS = Set.of(
            "append int", "clearText", "errorPosition", "load", "about int", "task int int", "stripe int int",
            "job int", "setting int", "add int int", "bring int int", "stop int", "turnBad int", "mend int", "run int",
            "set int int", "undo", "bestGap int", "window int int", "idleIn", "coming int int int", "lost int",
            "runScript int long", "simulate long int", "save int", "restore int");

    public static void main(String[] args) {
        Class<?> face = StripeTasks.class;
        Check.same("the class is public and final", face.getModifiers(), Modifier.PUBLIC | Modifier.FINAL);
        Set<String> visible = new TreeSet<>();
        for (Method method : face.getDeclaredMethods()) {
            if (method.isSynthetic() || Modifier.isPrivate(method.getModifiers())) {
                continue;
            }
            StringBuilder told = new StringBuilder(method.getName());
            for (Class<?> parameter : method.getParameterTypes()) {
                told.append(' ').append(parameter.getName());
            }
            visible.add(told.toString());
            Check.same(told + " is public", method.getModifiers(), Modifier.PUBLIC);
            Check.sameText(told + " answers", method.getReturnType().getName(), "int");
        }
        Check.sameText("the methods", visible.toString(), new TreeSet<>(METHODS).toString());
        for (Field field : face.getDeclaredFields()) {
            boolean isConstant = field.getName().equals("NONE");
            Check.same(field + " is private", Modifier.isPrivate(field.getModifiers()) ? 1 : 0, isConstant ? 0 : 1);
        }
        Constructor<?>[] constructors = face.getDeclaredConstructors();
        Check.same("constructors", constructors.length, 1);
        Check.same("public constructors without parameters", face.getConstructors()[0].getParameterCount(), 0);
        privateNames(face);
        for (Class<?> inside : face.getDeclaredClasses()) {
            privateNames(inside);
        }
        Check.finish("FaceTest");
    }

    /** "No private method bears the name of a public one." */
    private static void privateNames(Class<?> one) {
        for (Method method : one.getDeclaredMethods()) {
            boolean taken = METHODS.stream().anyMatch(told -> told.split(" ")[0].equals(method.getName()));
            boolean isPrivate = Modifier.isPrivate(method.getModifiers());
            Check.same(method + " is private with a name of the face", taken && isPrivate ? 1 : 0, 0);
        }
    }
}
