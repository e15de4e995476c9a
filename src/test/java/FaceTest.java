import java.lang.reflect.Constructor;
import java.lang.reflect.Field;
import java.lang.reflect.Method;
import java.lang.reflect.Modifier;
import java.util.Arrays;
import java.util.TreeSet;

/** The public face: just what the document tells, and no other member that can be seen from outside. */
public final class FaceTest {
    public static void main(String[] args) {
        TreeSet<String> face = new TreeSet<>(Arrays.asList(
                "int feed[int, int, int, int, int]", "int end[int]", "int read[]", "int count[int]",
                "int function[int, int]", "int export[int, int]", "int global[int, int]", "long initial[int]"));
        TreeSet<String> names = new TreeSet<>(Arrays.asList(
                "feed", "end", "read", "count", "function", "export", "global", "initial"));
        TreeSet<String> found = new TreeSet<>();
        for (Method method : WasmReader.class.getDeclaredMethods()) {
            if (Modifier.isPublic(method.getModifiers())) {
                found.add(described(method));
            } else {
                Check.same(method + " is private", Modifier.isPrivate(method.getModifiers()) ? 1 : 0, 1);
                Check.same(method + " has a name of its own", names.contains(method.getName()) ? 1 : 0, 0);
            }
        }
        Check.same("the face is " + found, found.equals(face) ? 1 : 0, 1);
        for (Field field : WasmReader.class.getDeclaredFields()) {
            Check.same(field + " is private", Modifier.isPrivate(field.getModifiers()) ? 1 : 0, 1);
        }
        Constructor<?>[] constructors = WasmReader.class.getDeclaredConstructors();
        Check.same("constructors", constructors.length, 1);
        Check.same("it takes nothing", constructors[0].getParameterCount(), 0);
        Check.same("it is public", Modifier.isPublic(constructors[0].getModifiers()) ? 1 : 0, 1);
        Check.same("the class is final", Modifier.isFinal(WasmReader.class.getModifiers()) ? 1 : 0, 1);
        for (Class<?> inside : WasmReader.class.getDeclaredClasses()) {
            int open = inside.getModifiers() & (Modifier.PUBLIC | Modifier.PROTECTED);
            Check.same(inside + " is not seen from outside", open, 0);
        }
        Check.finish("FaceTest");
    }

    private static String described(Method method) {
        StringBuilder parameters = new StringBuilder();
        for (Class<?> parameter : method.getParameterTypes()) {
            parameters.append(parameters.length() == 0 ? "" : ", ").append(parameter.getSimpleName());
        }
        return method.getReturnType().getSimpleName() + " " + method.getName() + "[" + parameters + "]";
    }
}
