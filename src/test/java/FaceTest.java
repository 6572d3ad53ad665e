import java.lang.reflect.Constructor;
import java.lang.reflect.Field;
import java.lang.reflect.Method;
import java.lang.reflect.Modifier;
import java.util.Arrays;
import java.util.Set;
import java.util.TreeSet;

/** The public face: every constant, constructor and method of the document, and no other member that shows. */
final class FaceTest {
    private static final String ARGUMENT = " throws IllegalArgumentException";
    private static final String INDEX = " throws IndexOutOfBoundsException";
    private static final String STATE = " throws IllegalStateException";
    private static final String[] METHODS = {
        "int frame(int int int int)" + ARGUMENT,
        "int repeat(int)" + ARGUMENT,
        "int receive(int)" + ARGUMENT + " IllegalStateException",
        "int shine(int)" + ARGUMENT + " IllegalStateException",
        "int pass(int)" + ARGUMENT,
        "int setGlare(int)" + ARGUMENT,
        "int setAddress(int)" + ARGUMENT,
        "int learn(int int)" + INDEX + " IllegalArgumentException",
        "int glare()",
        "int gain()",
        "int action(int)" + INDEX,
        "int done(int)" + INDEX,
        "int remembered()",
        "int holds()",
        "int presses()",
        "int refused(int)" + INDEX,
        "int row()",
        "int received()",
        "double hitShare()",
        "int bit(int int int int)" + ARGUMENT,
        "int ifFrame(int int int int)" + ARGUMENT,
        "int leastStrength()",
        "int refusalsToCome()",
        "int ticksToForget()",
        "int append(int)" + ARGUMENT + " IllegalStateException",
        "int clearText()",
        "int firstError()",
        "int run()" + ARGUMENT,
        "int undo()" + STATE,
        "int savedStates()",
        "long digest()",
    };

    public static void main(String[] args) {
        theClass();
        theMethods();
        theFields();
        theConstructor();
        theClassesInside();
        Check.end();
    }

    private static void theClass() {
        Check.same("public final", LightReceiver.class.getModifiers(), Modifier.PUBLIC | Modifier.FINAL);
        Check.same("above it", LightReceiver.class.getSuperclass(), Object.class);
        Check.same("interfaces", LightReceiver.class.getInterfaces().length, 0);
    }

    private static void theMethods() {
        Set<String> shown = new TreeSet<>();
        Set<String> names = new TreeSet<>();
        for (Method method : LightReceiver.class.getDeclaredMethods()) {
            if (!Modifier.isPrivate(method.getModifiers())) {
                Check.same(method.getName() + " is public only", method.getModifiers(), Modifier.PUBLIC);
                shown.add(toText(method));
                names.add(method.getName());
            }
        }
        Check.same("the methods", shown, new TreeSet<>(Arrays.asList(METHODS)));
        for (Method method : LightReceiver.class.getDeclaredMethods()) {
            boolean isPrivate = Modifier.isPrivate(method.getModifiers());
            Check.same("own name of " + method, isPrivate && names.contains(method.getName()), false);
        }
    }

    private static String toText(Method method) {
        StringBuilder text = new StringBuilder(method.getReturnType().getName());
        text.append(' ').append(method.getName()).append('(');
        for (Class<?> type : method.getParameterTypes()) {
            text.append(text.charAt(text.length() - 1) == '(' ? "" : " ").append(type.getName());
        }
        text.append(')').append(method.getExceptionTypes().length == 0 ? "" : " throws");
        for (Class<?> type : method.getExceptionTypes()) {
            text.append(' ').append(type.getSimpleName());
        }
        return text.toString();
    }

    private static void theFields() {
        for (Field field : LightReceiver.class.getDeclaredFields()) {
            if (field.getName().equals("NONE")) {
                Check.same("NONE", field.getModifiers(), Modifier.PUBLIC | Modifier.STATIC | Modifier.FINAL);
                Check.same("the type of NONE", field.getType(), int.class);
            } else {
                Check.same(field.getName() + " is private", Modifier.isPrivate(field.getModifiers()), true);
            }
        }
    }

    private static void theConstructor() {
        Constructor<?>[] constructors = LightReceiver.class.getDeclaredConstructors();
        Check.same("constructors", constructors.length, 1);
        Check.same("its parameters", constructors[0].getParameterCount(), 0);
        Check.same("it is public", constructors[0].getModifiers(), Modifier.PUBLIC);
        Check.same("what it throws", constructors[0].getExceptionTypes().length, 0);
    }

    private static void theClassesInside() {
        Class<?>[] inside = LightReceiver.class.getDeclaredClasses();
        Check.same("at most twelve classes", inside.length <= 12, true);
        for (Class<?> one : inside) {
            int modifiers = one.getModifiers();
            Check.same(one.getName() + " is shown", Modifier.isPublic(modifiers) || Modifier.isProtected(modifiers), false);
        }
    }
}
