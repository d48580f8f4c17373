import java.lang.reflect.Constructor;
import java.lang.reflect.Field;
import java.lang.reflect.Method;
import java.lang.reflect.Modifier;
import java.util.Arrays;
import java.util.Set;
import java.util.TreeSet;

/** The public face, as the document writes it, and rule 1 of the language. */
public final class FaceTest {
    private static final String BOUNDS = "IndexOutOfBoundsException";
    private static final String ARGUMENT = "IllegalArgumentException";
    private static final String[] FACE = {
        "void port(int, int, int) " + BOUNDS + " " + ARGUMENT,
        "boolean up(int, boolean) " + BOUNDS,
        "int route(int, int, int, int) " + ARGUMENT + " " + BOUNDS + " UnsupportedOperationException",
        "boolean unroute(int, int) " + ARGUMENT,
        "int lookup(int, int) " + ARGUMENT,
        "int feed(int, int, int, int, int) IllegalStateException",
        "void end(int) " + ARGUMENT,
        "void sum(int) " + ARGUMENT,
        "int copy(int) " + BOUNDS,
        "int receive(int) " + BOUNDS,
        "int pass(int) " + ARGUMENT,
        "int sent(int, int) " + BOUNDS + " " + ARGUMENT,
        "int out(int, int) " + BOUNDS,
        "int data(int)",
        "int about(int) " + ARGUMENT,
    };

    public static void main(String[] args) {
        Set<String> open = new TreeSet<>();
        Set<String> names = new TreeSet<>();
        for (Method method : RouteHouse.class.getDeclaredMethods()) {
            if (!Modifier.isPrivate(method.getModifiers())) {
                open.add(text(method));
                names.add(method.getName());
            }
        }
        Due.is("methods are those of the document: " + open, open.equals(new TreeSet<>(Arrays.asList(FACE))), true);
        for (Method method : RouteHouse.class.getDeclaredMethods()) {
            boolean isHidden = Modifier.isPrivate(method.getModifiers());
            Due.is("private with a public name: " + method, isHidden && names.contains(method.getName()), false);
        }
        for (Field field : RouteHouse.class.getDeclaredFields()) {
            boolean isOpen = !Modifier.isPrivate(field.getModifiers());
            Due.is("open field " + field, isOpen, field.getName().equals("NONE"));
        }
        Constructor<?>[] made = RouteHouse.class.getDeclaredConstructors();
        Due.is("constructors", made.length, 1);
        Due.is("public constructor", Modifier.isPublic(made[0].getModifiers()), true);
        Due.is("public final class", RouteHouse.class.getModifiers(), Modifier.PUBLIC | Modifier.FINAL);
        Due.is("NONE", RouteHouse.NONE, -1);
        Due.close();
    }

    private static String text(Method method) {
        StringBuilder text = new StringBuilder(method.getReturnType().getSimpleName());
        text.append(' ').append(method.getName()).append('(');
        String between = "";
        for (Class<?> type : method.getParameterTypes()) {
            text.append(between).append(type.getSimpleName());
            between = ", ";
        }
        text.append(')');
        for (Class<?> type : method.getExceptionTypes()) {
            text.append(' ').append(type.getSimpleName());
        }
        return text.toString();
    }
}
