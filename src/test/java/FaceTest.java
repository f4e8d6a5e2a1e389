import java.lang.reflect.Constructor;
import java.lang.reflect.Field;
import java.lang.reflect.Method;
import java.lang.reflect.Modifier;
import java.util.Set;
import java.util.TreeSet;
import java.util.stream.Collectors;
import java.util.stream.Stream;

/** The public face of the document, with what its calls may throw, and no other member that can be seen from outside. */
final class FaceTest {
    private static final Class<?> FACE = StripeTasks.class;
    private static final String INDEX = "IndexOutOfBoundsException";
    private static final String ARGUMENT = "IllegalArgumentException";
    private static final String STATE = "IllegalStateException";
    private static final Set<String> METHODS = new TreeSet<>(Set.of(
            "append(int) " + ARGUMENT + ' ' + STATE,
            "clearText()",
            "errorPosition()",
            "load() " + STATE,
            "about(int) " + ARGUMENT,
            "task(int int) " + INDEX + ' ' + ARGUMENT,
            "stripe(int int) " + INDEX + ' ' + ARGUMENT,
            "job(int) " + ARGUMENT,
            "setting(int) " + ARGUMENT,
            "add(int int) " + ARGUMENT + ' ' + STATE,
            "bring(int int) " + INDEX + ' ' + STATE,
            "stop(int) " + INDEX + ' ' + STATE,
            "turnBad(int) " + INDEX,
            "mend(int) " + INDEX,
            "run(int) " + ARGUMENT,
            "set(int int) " + ARGUMENT,
            "undo() " + STATE,
            "bestGap(int) " + ARGUMENT,
            "window(int int) " + ARGUMENT,
            "idleIn()",
            "coming(int int int) " + INDEX + ' ' + ARGUMENT,
            "lost(int) " + INDEX,
            "runScript(int long) " + ARGUMENT,
            "simulate(long int) " + ARGUMENT,
            "save(int) " + INDEX,
            "restore(int) " + INDEX + ' ' + STATE));

    public static void main(String[] args) {
        theClass();
        methods();
        fields();
        constructors();
        inside();
        Check.finish("FaceTest");
    }

    /** "public final class StripeTasks" */
    private static void theClass() {
        Check.same("the class is public and final", FACE.getModifiers(), Modifier.PUBLIC | Modifier.FINAL);
        Check.sameText("it is in no package", FACE.getPackageName(), "");
        Check.sameText("it extends nothing", FACE.getSuperclass().getName(), "java.lang.Object");
        Check.same("it implements nothing", FACE.getInterfaces().length, 0);
    }

    private static String names(Class<?>[] classes) {
        return Stream.of(classes).map(Class::getSimpleName).collect(Collectors.joining(" "));
    }

    private static void methods() {
        Set<String> visible = new TreeSet<>();
        for (Method method : FACE.getDeclaredMethods()) {
            if (method.isSynthetic() || Modifier.isPrivate(method.getModifiers())) {
                continue;
            }
            String told = method.getName() + '(' + names(method.getParameterTypes()) + ") ";
            visible.add((told + names(method.getExceptionTypes())).trim());
            Check.same(told + "is public", method.getModifiers(), Modifier.PUBLIC);
            Check.sameText(told + "answers", method.getReturnType().getName(), "int");
        }
        Check.sameText("the methods", String.join("\n", visible), String.join("\n", METHODS));
    }

    /** "public static final int NONE = -1;" */
    private static void fields() {
        for (Field field : FACE.getDeclaredFields()) {
            boolean isConstant = field.getName().equals("NONE");
            Check.same(field + " is private", Modifier.isPrivate(field.getModifiers()) ? 1 : 0, isConstant ? 0 : 1);
            if (isConstant) {
                Check.same("NONE", field.getModifiers(), Modifier.PUBLIC | Modifier.STATIC | Modifier.FINAL);
                Check.sameText("NONE", field.getType().getName(), "int");
            }
        }
        Check.same("visible fields", FACE.getFields().length, 1);
        Check.same("NONE", StripeTasks.NONE, -1);
    }

    /** "public StripeTasks();" */
    private static void constructors() {
        Constructor<?>[] constructors = FACE.getDeclaredConstructors();
        Check.same("constructors", constructors.length, 1);
        Check.same("it is public", constructors[0].getModifiers(), Modifier.PUBLIC);
        Check.sameText("its parameters", names(constructors[0].getParameterTypes()), "");
        Check.sameText("what it throws", names(constructors[0].getExceptionTypes()), "");
    }

    /** Classes inside are no part of the face; "No private method bears the name of a public one." */
    private static void inside() {
        privateNames(FACE);
        for (Class<?> one : FACE.getDeclaredClasses()) {
            boolean seen = Modifier.isPublic(one.getModifiers()) || Modifier.isProtected(one.getModifiers());
            Check.same(one + " can be seen from outside", seen ? 1 : 0, 0);
            Check.same(one + " is static", Modifier.isStatic(one.getModifiers()) ? 1 : 0, 1);
            privateNames(one);
        }
    }

    private static void privateNames(Class<?> one) {
        for (Method method : one.getDeclaredMethods()) {
            boolean taken = METHODS.stream().anyMatch(told -> told.startsWith(method.getName() + '('));
            boolean isPrivate = Modifier.isPrivate(method.getModifiers());
            Check.same(method + " is private with a name of the face", taken && isPrivate ? 1 : 0, 0);
        }
    }
}
