import java.lang.reflect.Constructor;
import java.lang.reflect.Field;
import java.lang.reflect.Method;
import java.lang.reflect.Modifier;
import java.util.Arrays;
import java.util.Set;
import java.util.TreeSet;

/** The public face: all of the document's members, with what they throw, and no other. */
public final class FaceTest {
    private static final String[] METHODS = {
        "void weight(int, int) throws Unknown, Range",
        "void steps(int, int, int) throws Range",
        "void interval(int, int, int) throws Unknown, Range",
        "int point(int, int, int, int, int) throws Unknown, Range, Room",
        "void day(int) throws Range",
        "void visit(int) throws Unknown",
        "int finding(int, int, int) throws Unknown, Range, Room",
        "void done(int, int) throws Unknown, Range, State",
        "int findingAt(int, int) throws Unknown",
        "int pointAt(int, int) throws Unknown",
        "int due(int, int) throws Range",
        "void question(int, int, int, int) throws Unknown, Range",
        "int list(int, int) throws Unknown, State, Room",
        "int walk(long, int) throws Unknown, Range",
        "int stop(int) throws Range",
        "void rules(int, int) throws Range",
        "int permit(int, int, int) throws Range, State, Room",
        "void ground(int, int, int, int) throws Range",
        "int clash()",
        "int touches(int) throws Unknown",
        "int surprise(int) throws State",
    };

    public static void main(String[] args) {
        Class<?> face = InspectRows.class;
        Check.isTrue("the class is public and final",
            Modifier.isPublic(face.getModifiers()) && Modifier.isFinal(face.getModifiers()));
        Check.isTrue("the class is in no package", face.getPackageName().isEmpty());
        checkMethods(face);
        checkConstructors(face);
        checkFields(face);
        checkStaticFields(face);
        checkInnerClasses(face);
        Check.finish();
    }

    private static void checkMethods(Class<?> face) {
        Set<String> due = new TreeSet<>(Arrays.asList(METHODS));
        Set<String> names = new TreeSet<>();
        Set<String> got = new TreeSet<>();
        for (Method method : face.getDeclaredMethods()) {
            if (!Modifier.isPrivate(method.getModifiers())) {
                got.add(told(method));
                names.add(method.getName());
                Check.isTrue(method + " is public", Modifier.isPublic(method.getModifiers()));
            }
        }
        Check.isTrue("the methods are " + got + ", due are " + due, got.equals(due));
        for (Method method : face.getDeclaredMethods()) {
            boolean hidden = Modifier.isPrivate(method.getModifiers());
            Check.isTrue(method + " bears a public name", !hidden || !names.contains(method.getName()));
        }
    }

    private static void checkConstructors(Class<?> face) {
        Constructor<?>[] constructors = face.getDeclaredConstructors();
        Check.equal("how many constructors", constructors.length, 1);
        Check.isTrue("the constructor is public and takes nothing",
            Modifier.isPublic(constructors[0].getModifiers()) && constructors[0].getParameterCount() == 0);
    }

    private static void checkFields(Class<?> face) {
        for (Field field : face.getDeclaredFields()) {
            Check.isTrue(field + " is private", Modifier.isPrivate(field.getModifiers()));
        }
    }

    private static void checkStaticFields(Class<?> owner) {
        for (Field field : owner.getDeclaredFields()) {
            boolean isStatic = Modifier.isStatic(field.getModifiers());
            Check.isTrue(field + " is final", !isStatic || Modifier.isFinal(field.getModifiers()));
        }
    }

    private static void checkInnerClasses(Class<?> face) {
        Check.isTrue("at most some twelve classes", face.getDeclaredClasses().length <= 12);
        for (Class<?> inner : face.getDeclaredClasses()) {
            int modifiers = inner.getModifiers();
            Check.isTrue(inner + " is static", Modifier.isStatic(modifiers));
            Check.isTrue(inner + " is hidden", !Modifier.isPublic(modifiers) && !Modifier.isProtected(modifiers));
            checkStaticFields(inner);
        }
    }

    private static String told(Method method) {
        StringBuilder text = new StringBuilder();
        text.append(method.getReturnType()).append(' ').append(method.getName());
        text.append('(').append(joined(method.getParameterTypes())).append(')');
        if (method.getExceptionTypes().length > 0) {
            text.append(" throws ").append(joined(method.getExceptionTypes()));
        }
        return text.toString();
    }

    private static String joined(Class<?>[] types) {
        StringBuilder text = new StringBuilder();
        for (Class<?> type : types) {
            text.append(text.length() == 0 ? "" : ", ").append(shortName(type));
        }
        return text.toString();
    }

    private static String shortName(Class<?> type) {
        return type == Check.UNKNOWN ? "Unknown"
            : type == Check.RANGE ? "Range"
            : type == Check.STATE ? "State"
            : type == Check.ROOM ? "Room"
            : type.getName();
    }
}
