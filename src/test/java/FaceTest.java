import java.lang.reflect.Constructor;
import java.lang.reflect.Field;
import java.lang.reflect.Method;
import java.lang.reflect.Modifier;
import java.util.Arrays;
import java.util.TreeSet;

/** The public face: just what the document tells, and no other member that can be seen from outside. */
public final class FaceTest {
    private static final String STATE = " throws " + Check.STATE;
    private static final String STATE_INDEX = STATE + ", " + Check.INDEX;
    private static final String ALL = STATE_INDEX + ", " + Check.ARGUMENT;

    public static void main(String[] args) {
        methods();
        constructor();
        noOtherMember();
        classesInside();
        Check.finish("FaceTest");
    }

    private static void methods() {
        TreeSet<String> face = new TreeSet<>(Arrays.asList(
                "int feed(int, int, int, int, int)" + STATE,
                "int end(int) throws " + Check.ARGUMENT,
                "int read()",
                "int count(int)" + STATE + ", " + Check.ARGUMENT,
                "int function(int, int)" + ALL,
                "int export(int, int)" + ALL,
                "int global(int, int)" + ALL,
                "long initial(int)" + STATE_INDEX));
        TreeSet<String> found = new TreeSet<>();
        for (Method method : WasmReader.class.getDeclaredMethods()) {
            if (Modifier.isPublic(method.getModifiers())) {
                found.add(described(method));
                Check.same(method + " is of an object", Modifier.isStatic(method.getModifiers()) ? 1 : 0, 0);
            }
        }
        Check.same("the face is " + found, found.equals(face) ? 1 : 0, 1);
    }

    private static String described(Method method) {
        String head = method.getReturnType().getSimpleName() + " " + method.getName();
        String thrown = names(method.getExceptionTypes());
        return head + "(" + names(method.getParameterTypes()) + ")" + (thrown.isEmpty() ? "" : " throws " + thrown);
    }

    private static String names(Class<?>[] classes) {
        StringBuilder out = new StringBuilder();
        for (Class<?> one : classes) {
            out.append(out.length() == 0 ? "" : ", ").append(one.getSimpleName());
        }
        return out.toString();
    }

    private static void constructor() {
        Constructor<?>[] constructors = WasmReader.class.getDeclaredConstructors();
        Check.same("constructors", constructors.length, 1);
        Check.same("what it takes", constructors[0].getParameterCount(), 0);
        Check.same("what it may throw", constructors[0].getExceptionTypes().length, 0);
        Check.same("it is public", Modifier.isPublic(constructors[0].getModifiers()) ? 1 : 0, 1);
        Check.same("the class is public", Modifier.isPublic(WasmReader.class.getModifiers()) ? 1 : 0, 1);
        Check.same("the class is final", Modifier.isFinal(WasmReader.class.getModifiers()) ? 1 : 0, 1);
    }

    private static void noOtherMember() {
        TreeSet<String> publicNames = new TreeSet<>();
        for (Method method : WasmReader.class.getDeclaredMethods()) {
            if (Modifier.isPublic(method.getModifiers())) {
                publicNames.add(method.getName());
            }
        }
        for (Method method : WasmReader.class.getDeclaredMethods()) {
            if (!Modifier.isPublic(method.getModifiers())) {
                Check.same(method + " is private", Modifier.isPrivate(method.getModifiers()) ? 1 : 0, 1);
                Check.same(method + " has a name of its own", publicNames.contains(method.getName()) ? 1 : 0, 0);
            }
        }
        for (Field field : WasmReader.class.getDeclaredFields()) {
            Check.same(field + " is private", Modifier.isPrivate(field.getModifiers()) ? 1 : 0, 1);
        }
    }

    private static void classesInside() {
        for (Class<?> inside : WasmReader.class.getDeclaredClasses()) {
            int open = inside.getModifiers() & (Modifier.PUBLIC | Modifier.PROTECTED);
            Check.same(inside + " is not seen from outside", open, 0);
            Check.same(inside + " is static", Modifier.isStatic(inside.getModifiers()) ? 1 : 0, 1);
        }
    }
}
