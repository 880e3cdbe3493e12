import java.io.IOException;
import java.lang.reflect.Constructor;
import java.lang.reflect.Method;
import java.lang.reflect.Modifier;
import java.nio.file.Files;
import java.nio.file.Path;
import java.util.TreeSet;

/** The face is that of the document, and nothing else of the class can be seen. */
public final class FaceTest {
    public static void main(String[] args) throws IOException {
        TreeSet<String> due = new TreeSet<>();
        String doc = Files.readString(Path.of("../shared/DOC.md"));
        String face = doc.substring(doc.indexOf("```java") + 7);
        for (String row : face.substring(0, face.indexOf("```")).split("\n")) {
            if (row.contains("(")) {
                due.add(plain(row));
            }
        }
        Due.is("rows of the face", due.size(), 53);
        TreeSet<String> got = new TreeSet<>();
        for (Constructor<?> made : Runpicture.class.getDeclaredConstructors()) {
            if (!Modifier.isPrivate(made.getModifiers())) {
                got.add(Modifier.toString(made.getModifiers()) + " Runpicture()");
                Due.is("the constructor's values", made.getParameterCount(), 0);
            }
        }
        for (Method method : Runpicture.class.getDeclaredMethods()) {
            if (!Modifier.isPrivate(method.getModifiers())) {
                got.add(shown(method));
            }
        }
        Due.is("the face", got, due);
        Due.is("fields that can be seen", visibleFields(), 0L);
        Due.is("public and final", Runpicture.class.getModifiers(), Modifier.PUBLIC | Modifier.FINAL);
        Due.end();
    }

    private static long visibleFields() {
        return java.util.Arrays.stream(Runpicture.class.getDeclaredFields())
                .filter(field -> !Modifier.isPrivate(field.getModifiers())).count();
    }

    /** A row without the names of the values. */
    private static String plain(String row) {
        String names = row.trim().replaceAll("(int|boolean|long) [a-zA-Z]+([,)])", "$1$2");
        return names.replace(";", "");
    }

    private static String shown(Method method) {
        StringBuilder row = new StringBuilder(Modifier.toString(method.getModifiers()));
        row.append(' ').append(method.getReturnType().getSimpleName()).append(' ').append(method.getName());
        row.append(names(method.getParameterTypes(), "(", ")"));
        if (method.getExceptionTypes().length > 0) {
            row.append(names(method.getExceptionTypes(), " throws ", ""));
        }
        return row.toString();
    }

    private static String names(Class<?>[] kinds, String begin, String end) {
        java.util.StringJoiner all = new java.util.StringJoiner(", ", begin, end);
        for (Class<?> kind : kinds) {
            all.add(kind.getSimpleName());
        }
        return all.toString();
    }
}
