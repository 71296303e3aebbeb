import java.lang.reflect.Constructor;
import java.lang.reflect.Field;
import java.lang.reflect.Method;
import java.lang.reflect.Modifier;
import java.util.Arrays;
import java.util.Set;
import java.util.TreeSet;

/** The public face: just what the document says is to be seen, and nothing beside it. */
public final class FaceTest {
    private static final String[] METHODS = {
        "int print(long, boolean) IllegalArgumentException",
        "int hexadecimal(long, boolean) IllegalArgumentException",
        "int fixed(long, boolean, int, int) IllegalArgumentException ArithmeticException",
        "int scientific(long, boolean, int, int) IllegalArgumentException ArithmeticException",
        "int paper()",
        "long paperAt(int)",
        "long digits(long, boolean) IllegalArgumentException ArithmeticException",
        "int power(long, boolean) IllegalArgumentException ArithmeticException",
        "long next(long, boolean, boolean) IllegalArgumentException",
        "long narrowed(long)",
        "long widened(long) IllegalArgumentException",
    };

    private static String told(Method method) {
        String parameters = Arrays.toString(method.getParameterTypes());
        parameters = parameters.substring(1, parameters.length() - 1);
        StringBuilder thrown = new StringBuilder();
        for (Class<?> exception : method.getExceptionTypes()) {
            thrown.append(' ').append(exception.getSimpleName());
        }
        return method.getReturnType() + " " + method.getName() + "(" + parameters + ")" + thrown;
    }

    public static void main(String[] args) {
        Class<?> face = FloatWriter.class;
        Check.equal("public final", face.getModifiers(), Modifier.PUBLIC | Modifier.FINAL);
        Set<String> open = new TreeSet<>();
        for (Method method : face.getDeclaredMethods()) {
            if (!Modifier.isPrivate(method.getModifiers())) {
                Check.equal(told(method), method.getModifiers(), Modifier.PUBLIC);
                open.add(told(method));
            }
        }
        Check.equal("methods", open, new TreeSet<>(Arrays.asList(METHODS)));
        for (Field field : face.getDeclaredFields()) {
            boolean isOpen = !Modifier.isPrivate(field.getModifiers());
            Check.equal("field " + field.getName(), isOpen, field.getName().equals("NONE"));
        }
        Constructor<?>[] constructors = face.getDeclaredConstructors();
        Check.equal("constructors", constructors.length, 1);
        Check.equal("its parameters", constructors[0].getParameterCount(), 0);
        Check.end();
    }
}
