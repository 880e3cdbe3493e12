import java.io.IOException;
import java.lang.reflect.Field;
import java.lang.reflect.Method;
import java.lang.reflect.Modifier;
import java.nio.file.Files;
import java.nio.file.Path;
import java.util.ArrayList;
import java.util.List;
import java.util.TreeSet;
import java.util.regex.Matcher;
import java.util.regex.Pattern;

/** Those rules of ../shared/LANGUAGE.md that can be seen from the text and the classes. */
public final class LanguageTest {
    private static final String[] FORBIDDEN = {
        "\\bimport\\b", "\\bpackage\\b", "->", "::", "\\bsynchronized\\b", "\\bassert\\b", "\\bfinally\\b",
        "\\btry\\b", "\\bcatch\\b", "\\binstanceof\\b", "\\bnative\\b", "\\bvolatile\\b", "\\btransient\\b",
        "Exact\\(", "\\bequals\\(", "\\bhashCode\\(", "\\bdouble\\b", "\\bfloat\\b", "\\bnull\\b", "\\bThread\\b",
        "\\bSystem\\b", "\\bRandom\\b", "\\bgetClass\\b", "\\bString\\.format\\b", "\\bprotected\\b", "\\bvar\\b",
        "static \\{"
    };

    public static void main(String[] args) throws IOException {
        String text = Files.readString(Path.of("src/main/java/Runpicture.java"));
        String code = text.replaceAll("(?s)/\\*.*?\\*/", "").replaceAll("//[^\n]*", "")
                .replaceAll("\"[^\"\n]*\"", "\"\"");
        for (String word : FORBIDDEN) {
            Due.is("uses of " + word, Pattern.compile(word).matcher(code).results().count(), 0L);
        }
        library(code);
        thrown(code);
        methods(text);
        List<Class<?>> classes = new ArrayList<>(List.of(Runpicture.class.getDeclaredClasses()));
        classes.add(Runpicture.class);
        Due.is("classes, " + classes.size() + ", within twelve", classes.size() <= 12, true);
        for (Class<?> each : classes) {
            members(each);
        }
        Due.end();
    }

    /** Of the library, just these. */
    private static void library(String code) {
        Matcher uses = Pattern.compile("\\b(Integer|Long|Math|Arrays|Character|String)\\.(\\w+)").matcher(code);
        while (uses.find()) {
            boolean isRight = List.of("bitCount", "min", "max", "abs").contains(uses.group(2));
            Due.is("of the library: " + uses.group(), isRight, true);
        }
        Matcher calls = Pattern.compile("\\btape\\.(\\w+)\\(").matcher(code);
        while (calls.find()) {
            boolean isRight = List.of("append", "setLength", "length", "charAt", "toString").contains(calls.group(1));
            Due.is("of a StringBuilder: " + calls.group(1), isRight, true);
        }
    }

    private static void thrown(String code) {
        Matcher thrown = Pattern.compile("\\bthrow\\b([^;]*);").matcher(code);
        Pattern right = Pattern.compile(
                " new (IllegalState|IllegalArgument|IndexOutOfBounds)Exception\\(\"\"\\)");
        while (thrown.find()) {
            Due.is("throw" + thrown.group(1), right.matcher(thrown.group(1)).matches(), true);
        }
    }

    /** No method is longer than sixty lines. */
    private static void methods(String text) {
        String[] rows = text.split("\n");
        for (int begin = 0; begin < rows.length; begin++) {
            String indent = rows[begin].replaceAll("\\S.*", "");
            boolean isMethod = rows[begin].matches("( {4}| {8})[a-z].*\\).* \\{") || rows[begin].matches("( {4}| {8})\\S.*\\($");
            if (isMethod && !rows[begin].contains(" class ")) {
                int end = begin;
                while (!rows[end].equals(indent + "}")) {
                    end++;
                }
                Due.is("lines of " + rows[begin].trim() + ": " + (end - begin), end - begin <= 60, true);
            }
        }
    }

    private static void members(Class<?> each) {
        TreeSet<String> face = new TreeSet<>();
        for (Method method : Runpicture.class.getMethods()) {
            if (method.getDeclaringClass() == Runpicture.class) {
                face.add(method.getName());
            }
        }
        boolean isInside = each != Runpicture.class;
        Due.is(each.getName() + " is static", !isInside || Modifier.isStatic(each.getModifiers()), true);
        int fields = 0;
        for (Field field : each.getDeclaredFields()) {
            boolean isStatic = Modifier.isStatic(field.getModifiers());
            fields += isStatic ? 0 : 1;
            Due.is("static and final: " + field, !isStatic || Modifier.isFinal(field.getModifiers()), true);
        }
        Due.is(each.getName() + " has " + fields + " fields, within twenty", fields <= 20, true);
        for (Method method : each.getDeclaredMethods()) {
            boolean isHidden = isInside || Modifier.isPrivate(method.getModifiers());
            Due.is("bears no name of the face: " + method, isHidden && face.contains(method.getName()), false);
            Due.is("values of " + method, method.getParameterCount() <= 7, true);
        }
    }
}
