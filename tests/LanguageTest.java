import java.io.IOException;
import java.lang.reflect.Field;
import java.lang.reflect.Method;
import java.lang.reflect.Modifier;
import java.nio.file.Files;
import java.nio.file.Path;
import java.util.ArrayList;
import java.util.List;
import java.util.TreeMap;
import java.util.TreeSet;
import java.util.regex.MatchResult;
import java.util.regex.Pattern;

/**
 * Those rules of ../shared/LANGUAGE.md that can be seen from the text and the classes; where a rule
 * says "some twenty", a tenth more is taken.
 */
public final class LanguageTest {
    /** What no rule leaves, wherever it stands. */
    private static final String[] FORBIDDEN = {
        "\\bpackage\\b", "::", "\\bsynchronized\\b", "\\bassert\\b", "\\bfinally\\b", "\\btry\\s*\\(", "\\bnative\\b",
        "\\bvolatile\\b", "Exact\\(", "\\bhashCode\\b", "\\bThread\\b", "\\bRandom\\b", "\\bgetClass\\b",
        "\\bgetMessage\\b", "\\bprintStackTrace\\b", "\\bCharacter\\b", "\\bstatic\\s*\\{"
    };
    private static final String EXCEPTIONS = "(IllegalState|IllegalArgument|IndexOutOfBounds|Arithmetic"
            + "|UnsupportedOperation|NoSuchElement|Runtime)Exception";
    private static final List<String> IMPORTS =
            List.of("ArrayList", "List", "Arrays", "Iterator", "NoSuchElementException");
    private static final List<String> NUMBER_FUNCTIONS = List.of(
            "bitCount", "min", "max", "abs", "compare", "floorDiv", "floorMod", "signum", "reverse", "rotateLeft",
            "rotateRight", "highestOneBit", "lowestOneBit", "numberOfLeadingZeros", "numberOfTrailingZeros",
            "MAX_VALUE", "MIN_VALUE");

    public static void main(String[] args) throws IOException {
        String text = Files.readString(Path.of("src/main/java/Runpicture.java"));
        String code = text.replaceAll("(?s)/\\*.*?\\*/", "").replaceAll("//[^\n]*", "")
                .replaceAll("\"[^\"\n]*\"", "\"\"");
        for (String word : FORBIDDEN) {
            Due.is("uses of " + word, found(word, code).size(), 0);
        }
        all("lambda", "([^\n;{]*)->", code, "\\s*(case|default)\\b.*");
        library(code);
        all("throw", "\\bthrow\\b([^;]*);", code, " new " + EXCEPTIONS + "\\((\"\")?\\)");
        all("catch", "\\bcatch\\s*\\(([^)]*)\\)", code, EXCEPTIONS + "( \\| " + EXCEPTIONS + ")* \\w+");
        methods(text);
        depth(code);
        List<Class<?>> classes = new ArrayList<>(List.of(Runpicture.class.getDeclaredClasses()));
        classes.add(Runpicture.class);
        Due.is("classes, " + classes.size() + ", some twelve", classes.size() <= 13, true);
        for (Class<?> each : classes) {
            members(each);
        }
        Due.end();
    }

    private static List<MatchResult> found(String pattern, String code) {
        return Pattern.compile(pattern).matcher(code).results().toList();
    }

    /** Looks whether the first group of all that is found is right. */
    private static void all(String name, String pattern, String code, String right) {
        for (MatchResult one : found(pattern, code)) {
            Due.is(name + ":" + one.group(1), one.group(1).matches(right), true);
        }
    }

    private static void library(String code) {
        all("import", "\\bimport\\s+([^;]*);", code, "java\\.util\\.(" + String.join("|", IMPORTS) + ")");
        all("of System", "\\bSystem\\.(\\w+)", code, "arraycopy");
        all("of Arrays", "\\bArrays\\.(\\w+)", code, "copyOf|copyOfRange|fill");
        all("of List", "\\bList\\.(\\w+)", code, "of");
        all("of String", "\\bString\\.(\\w+)", code, "none");
        all("of numbers", "\\b(?:Integer|Long|Math)\\.(\\w+)", code, String.join("|", NUMBER_FUNCTIONS));
        all("of a StringBuilder", "\\btape\\.(\\w+)\\(", code,
                "append|charAt|setCharAt|setLength|deleteCharAt|reverse|length|toString");
    }

    /** No method is longer than some sixty lines. */
    private static void methods(String text) {
        String[] rows = text.split("\n");
        for (int begin = 0; begin < rows.length; begin++) {
            String indent = rows[begin].replaceAll("\\S.*", "");
            boolean isMethod = rows[begin].matches("( {4}| {8})[a-z].*\\).* \\{") || rows[begin].matches("( {4}| {8})\\S.*\\($");
            if (isMethod && !rows[begin].contains(" class ")) {
                int end = begin;
                while (!rows[end].equals(indent + "}")) {
                    end++;
                }
                Due.is("lines of " + rows[begin].trim() + ": " + (end - begin), end - begin <= 66, true);
            }
        }
    }

    /** Calls that are no recursion go at most eight deep. */
    private static void depth(String code) {
        String[] pieces = code.split("\n(?=( {4}| {8})(public |private |static |int|boolean|long|char|void|String)[^;={}\n]*\\()");
        TreeMap<String, String> bodies = new TreeMap<>();
        for (int n = 1; n < pieces.length; n++) {
            int open = pieces[n].indexOf('(');
            String name = pieces[n].substring(0, open).replaceAll(".*\\W", "");
            bodies.merge(name, pieces[n].substring(open), String::concat);
        }
        Due.is("methods found", bodies.size() > 53, true);
        for (String name : bodies.keySet()) {
            int deep = depthOf(name, bodies, List.of());
            Due.is("calls below " + name + " go " + deep + " deep", deep <= 8, true);
        }
    }

    private static int depthOf(String name, TreeMap<String, String> bodies, List<String> above) {
        int deepest = 0;
        List<String> here = new ArrayList<>(above);
        here.add(name);
        for (MatchResult call : found("\\b(\\w+)\\(", bodies.get(name))) {
            if (bodies.containsKey(call.group(1)) && !here.contains(call.group(1))) {
                deepest = Math.max(deepest, depthOf(call.group(1), bodies, here));
            }
        }
        return deepest + 1;
    }

    private static void members(Class<?> each) {
        TreeSet<String> face = new TreeSet<>();
        for (Method method : Runpicture.class.getMethods()) {
            if (method.getDeclaringClass() == Runpicture.class) {
                face.add(method.getName());
            }
        }
        int fields = 0;
        for (Field field : each.getDeclaredFields()) {
            boolean isStatic = Modifier.isStatic(field.getModifiers());
            fields += isStatic ? 0 : 1;
            Due.is("static and final: " + field, !isStatic || Modifier.isFinal(field.getModifiers()), true);
        }
        Due.is(each.getName() + " has " + fields + " fields, some twenty", fields <= 22, true);
        for (Method method : each.getDeclaredMethods()) {
            boolean isPrivate = Modifier.isPrivate(method.getModifiers());
            Due.is("bears no name of the face: " + method, isPrivate && face.contains(method.getName()), false);
            Due.is("values of " + method, method.getParameterCount() <= 7, true);
        }
    }
}
