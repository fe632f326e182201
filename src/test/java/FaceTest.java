import java.lang.reflect.Constructor;
import java.lang.reflect.Field;
import java.lang.reflect.Method;
import java.lang.reflect.Modifier;
import java.util.Arrays;
import java.util.TreeSet;

/** The public face is the document's, and nothing else of the class can be reached. */
final class FaceTest {
    private static final String NO_SUCH = "IndexOutOfBoundsException";
    private static final String ALL_THREE = "IndexOutOfBoundsException,IllegalArgumentException,IllegalStateException";
    private static final String NO_SUCH_OR_STATE = "IndexOutOfBoundsException,IllegalStateException";

    private static final String[] METHODS = {
        "int insert(int,int,int) " + ALL_THREE, "int remove(int,int) " + ALL_THREE,
        "int length() ", "int letterAt(int) " + NO_SUCH, "int version() ",
        "int comment(int,int,int) " + ALL_THREE, "int answer(int) " + NO_SUCH,
        "boolean resolve(int) " + NO_SUCH, "int find(int) " + NO_SUCH_OR_STATE,
        "int comments() ", "int rangeOf(int) " + NO_SUCH, "int rangeThen(int,int) " + NO_SUCH,
        "int open() ", "int orphans() ",
        "int cover(int) " + NO_SUCH, "int coverByLetters(int) " + NO_SUCH,
        "int pieces() ", "int pieceAt(int) " + NO_SUCH,
        "int suggest(int,int,int,int) " + ALL_THREE, "int accept(int) " + NO_SUCH_OR_STATE,
        "int reject(int) " + NO_SUCH_OR_STATE, "int stateOf(int) " + NO_SUCH, "int overlaps(int) " + NO_SUCH
    };

    public static void main(String[] args) {
        methods();
        constants();
        constructor();
        classesInside();
        Check.end("FaceTest");
    }

    private static String names(Class<?>[] types) {
        StringBuilder names = new StringBuilder();
        for (Class<?> type : types) {
            names.append(names.length() == 0 ? "" : ",").append(type.getSimpleName());
        }
        return names.toString();
    }

    private static void methods() {
        TreeSet<String> found = new TreeSet<>();
        TreeSet<String> faceNames = new TreeSet<>();
        for (Method method : MarginDesk.class.getDeclaredMethods()) {
            if (!Modifier.isPrivate(method.getModifiers())) {
                found.add(method.getReturnType().getSimpleName() + " " + method.getName()
                    + "(" + names(method.getParameterTypes()) + ") " + names(method.getExceptionTypes()));
                faceNames.add(method.getName());
                Check.due(method + " is public", true, method.getModifiers() == Modifier.PUBLIC);
            }
        }
        Check.due("the methods", new TreeSet<>(Arrays.asList(METHODS)).toString(), found.toString());
        for (Method method : MarginDesk.class.getDeclaredMethods()) {
            if (Modifier.isPrivate(method.getModifiers())) {
                Check.due("the name of " + method, false, faceNames.contains(method.getName()));
            }
        }
    }

    private static void constants() {
        Check.due("NONE", -1, MarginDesk.NONE);
        Check.due("WAITING", 0, MarginDesk.WAITING);
        Check.due("ACCEPTED", 1, MarginDesk.ACCEPTED);
        Check.due("REJECTED", 2, MarginDesk.REJECTED);
        Check.due("GONE", 3, MarginDesk.GONE);
        TreeSet<String> found = new TreeSet<>();
        for (Field field : MarginDesk.class.getDeclaredFields()) {
            if (!Modifier.isPrivate(field.getModifiers())) {
                found.add(field.getName());
                Check.due(field + "'s kind", Modifier.PUBLIC | Modifier.STATIC | Modifier.FINAL, field.getModifiers());
            }
            if (Modifier.isStatic(field.getModifiers())) {
                Check.due(field + " is final", true, Modifier.isFinal(field.getModifiers()));
            }
        }
        Check.due("the constants", "[ACCEPTED, GONE, NONE, REJECTED, WAITING]", found.toString());
    }

    private static void constructor() {
        Constructor<?>[] constructors = MarginDesk.class.getDeclaredConstructors();
        Check.due("constructors", 1, constructors.length);
        Check.due("it is public", Modifier.PUBLIC, constructors[0].getModifiers());
        Check.due("its parameters", 0, constructors[0].getParameterCount());
        Check.due("the class", Modifier.PUBLIC | Modifier.FINAL, MarginDesk.class.getModifiers());
        Check.due("the class above it", "java.lang.Object", MarginDesk.class.getSuperclass().getName());
        Check.due("its interfaces", 0, MarginDesk.class.getInterfaces().length);
    }

    private static void classesInside() {
        for (Class<?> inside : MarginDesk.class.getDeclaredClasses()) {
            int kind = inside.getModifiers();
            Check.due(inside + " is static", true, Modifier.isStatic(kind));
            Check.due(inside + " can't be reached", false, Modifier.isPublic(kind) || Modifier.isProtected(kind));
        }
    }
}
