import java.io.IOException;
import java.lang.reflect.Field;
import java.lang.reflect.Method;
import java.lang.reflect.Modifier;
import java.nio.file.Files;
import java.nio.file.Path;
import java.util.Arrays;
import java.util.HashSet;
import java.util.Set;
import java.util.regex.Pattern;

/** Rules of LANGUAGE.md that can be seen from outside or in the source's words. */
public final class LanguageTest {
    private static final Path SOURCE = Path.of("src/main/java/FloatWriter.java");

    /** Words that the rules, or the way this class is written, leave no use for. */
    private static final String[] NEVER = {
        "package", "import", "try", "catch", "finally", "synchronized", "assert", "protected",
        "native", "volatile", "transient", "System", "Thread", "Object", "double", "float",
        "addExact", "multiplyExact", "toIntExact", "hashCode", "toString", "equals",
    };

    private static String codeAlone() throws IOException {
        String source = Files.readString(SOURCE);
        return source.replaceAll("(?s)/\\*.*?\\*/", " ").replaceAll("//[^\n]*", " ")
                .replaceAll("\"[^\"\n]*\"", "\"\"");
    }

    private static void words() throws IOException {
        String code = codeAlone();
        for (String word : NEVER) {
            boolean found = Pattern.compile("\\b" + word + "\\b").matcher(code).find();
            Check.equal("the source has the word " + word, found, false);
        }
        Check.equal("the source has a lambda or a method reference",
                code.contains("->") || code.contains("::"), false);
    }

    private static void names() {
        Set<String> face = new HashSet<>();
        for (Method method : FloatWriter.class.getMethods()) {
            face.add(method.getName());
        }
        for (Class<?> each : all()) {
            for (Method method : each.getDeclaredMethods()) {
                if (Modifier.isPrivate(method.getModifiers())) {
                    Check.equal("rule 1: " + method, face.contains(method.getName()), false);
                }
                Check.equal("rule 11: " + method, method.getParameterCount() <= 7, true);
            }
        }
    }

    private static void fields() {
        for (Class<?> each : all()) {
            int own = 0;
            for (Field field : each.getDeclaredFields()) {
                boolean isStatic = Modifier.isStatic(field.getModifiers());
                Check.equal("rule 5: " + field,
                        !isStatic || Modifier.isFinal(field.getModifiers()), true);
                own += isStatic ? 0 : 1;
            }
            Check.equal("rule 11: fields of " + each, own <= 20, true);
        }
    }

    private static void classes() {
        Check.equal("rule 11: classes", all().length <= 12, true);
        for (Class<?> inside : FloatWriter.class.getDeclaredClasses()) {
            int modifiers = inside.getModifiers();
            Check.equal("rule 1: " + inside + " is static", Modifier.isStatic(modifiers), true);
            Check.equal("rule 1: " + inside + " is public", Modifier.isPublic(modifiers), false);
        }
    }

    private static Class<?>[] all() {
        Class<?>[] inside = FloatWriter.class.getDeclaredClasses();
        Class<?>[] all = Arrays.copyOf(inside, inside.length + 1);
        all[inside.length] = FloatWriter.class;
        return all;
    }

    public static void main(String[] args) throws IOException {
        words();
        names();
        fields();
        classes();
        Check.end();
    }
}
