import java.lang.reflect.Constructor;
import java.lang.reflect.Field;
import java.lang.reflect.Method;
import java.lang.reflect.Modifier;
import java.util.Arrays;
import java.util.Set;
import java.util.TreeSet;

/** The public face: the document's constructor and methods with their exceptions, and no other. */
public final class FaceTest {
    private static final String INDEX = " IndexOutOfBoundsException";
    private static final String ARGUMENT = " IllegalArgumentException";
    private static final String STATE = " IllegalStateException";
    private static final String[] FACE = {
        "int say(int, int)" + ARGUMENT,
        "int startStorm()" + STATE,
        "int endStorm()" + STATE,
        "int replay(int)" + INDEX + STATE,
        "int compact()",
        "int trimTo(int)" + ARGUMENT,
        "int addShip(int, int)" + ARGUMENT + STATE,
        "int seek(int, int)" + INDEX + ARGUMENT,
        "int passHours(int)" + ARGUMENT,
        "int hours()",
        "int phrases()",
        "int nextOffset()",
        "int firstOffset()",
        "int dropped()",
        "boolean isKept(int)",
        "int keyAt(int)" + INDEX,
        "int valueAt(int)" + INDEX,
        "int stormAt(int)" + INDEX,
        "int latestOf(int)" + INDEX,
        "int valueOf(int)" + INDEX,
        "int countOf(int)" + INDEX,
        "int storms()",
        "boolean isStormy()",
        "int saidIn(int)" + INDEX,
        "int keptOf(int)" + INDEX,
        "int ships()",
        "int offsetOf(int)" + INDEX,
        "int lagOf(int)" + INDEX,
        "int heardBy(int)" + INDEX,
        "int missedBy(int)" + INDEX,
        "int knownBy(int, int)" + INDEX,
        "int errorsOf(int)" + INDEX,
        "int farthestBehind()",
        "int hoursUntilCaughtUp(int)" + INDEX,
        "int errorsIn(int, int)" + INDEX + ARGUMENT,
        "int paceWanted(int, int)" + INDEX + ARGUMENT,
        "int wouldCompact()",
        "int wouldMiss(int)" + INDEX,
        "double meanLag()",
        "long digest()",
    };

    private FaceTest() {
    }

    public static void main(String[] args) {
        Class<?> log = ParrotLog.class;
        Check.due("the class is public and final", Modifier.isPublic(log.getModifiers())
                && Modifier.isFinal(log.getModifiers()), true);
        Constructor<?>[] constructors = log.getDeclaredConstructors();
        Check.due("constructors", constructors.length, 1);
        Check.due("the constructor is public and takes nothing", Modifier.isPublic(constructors[0].getModifiers())
                && constructors[0].getParameterCount() == 0, true);
        Set<String> methods = new TreeSet<>();
        for (Method method : log.getDeclaredMethods()) {
            if (!Modifier.isPrivate(method.getModifiers())) {
                methods.add(signature(method));
            }
        }
        Check.due("the face", String.join("; ", methods), String.join("; ", new TreeSet<>(Arrays.asList(FACE))));
        for (Field field : log.getDeclaredFields()) {
            Check.due("field " + field.getName() + " is private", Modifier.isPrivate(field.getModifiers()), true);
        }
        noPrivateMethodBearsANameOfTheFace(log);
        for (Class<?> inside : log.getDeclaredClasses()) {
            noPrivateMethodBearsANameOfTheFace(inside);
        }
        Check.end();
    }

    private static void noPrivateMethodBearsANameOfTheFace(Class<?> owner) {
        Set<String> names = new TreeSet<>();
        for (Method method : ParrotLog.class.getMethods()) {
            names.add(method.getName());
        }
        for (Method method : owner.getDeclaredMethods()) {
            boolean ofFace = Modifier.isPublic(method.getModifiers());
            Check.due(owner.getName() + "." + method.getName(), !ofFace && names.contains(method.getName()), false);
        }
    }

    private static String signature(Method method) {
        StringBuilder text = new StringBuilder();
        text.append(Modifier.isPublic(method.getModifiers()) ? "" : "not public ");
        text.append(method.getReturnType().getSimpleName()).append(' ').append(method.getName()).append('(');
        for (int i = 0; i < method.getParameterCount(); i++) {
            text.append(i == 0 ? "" : ", ").append(method.getParameterTypes()[i].getSimpleName());
        }
        text.append(')');
        for (Class<?> thrown : method.getExceptionTypes()) {
            text.append(' ').append(thrown.getSimpleName());
        }
        return text.toString();
    }
}
