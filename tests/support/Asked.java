import java.lang.reflect.InvocationTargetException;
import java.lang.reflect.Method;
import java.util.Set;
import java.util.TreeMap;

/**
 * A new object whose calls are told as texts, such as "put 0 11 3 5" or "tree 0 true", and counted:
 * the document promises nothing of what comes behind the 512th.
 */
public final class Asked {
    public static final int MOST_CALLS = 512;
    private static final TreeMap<String, Method> FACE = faceOf(Runpicture.class);
    private static final TreeMap<String, Method> PLAIN_FACE = faceOf(Plain.class);
    private final Object of;
    private final TreeMap<String, Method> face;
    private int calls = 0;

    private Asked(Object of, TreeMap<String, Method> face) {
        this.of = of;
        this.face = face;
    }

    /** The class that is looked at. */
    public static Asked made() {
        return new Asked(new Runpicture(), FACE);
    }

    /** The document's words done plainly, which tell what is due. */
    public static Asked plain() {
        return new Asked(new Plain(), PLAIN_FACE);
    }

    private static TreeMap<String, Method> faceOf(Class<?> kind) {
        TreeMap<String, Method> face = new TreeMap<>();
        for (Method method : kind.getMethods()) {
            if (method.getDeclaringClass() == kind) {
                face.put(method.getName(), method);
            }
        }
        return face;
    }

    /** The names of all methods. */
    public static Set<String> face() {
        return FACE.keySet();
    }

    /** The answer of a call, or "throws" and the exception's name. */
    public Object call(String text) {
        calls++;
        if (calls > MOST_CALLS && of instanceof Runpicture) {
            throw new IllegalStateException("a test calls an object too often: " + text);
        }
        String[] words = text.trim().split(" ");
        Object[] values = new Object[words.length - 1];
        for (int n = 0; n < values.length; n++) {
            String word = words[n + 1];
            boolean isWay = word.equals("true") || word.equals("false");
            values[n] = isWay ? (Object) Boolean.valueOf(word) : (Object) Integer.valueOf(word);
        }
        try {
            return face.get(words[0]).invoke(of, values);
        } catch (InvocationTargetException e) {
            return "throws " + e.getCause().getClass().getName();
        } catch (IllegalAccessException e) {
            throw new IllegalStateException(text);
        }
    }

    /** Calls with ";" between; none of them may throw. */
    public Asked run(String script) {
        for (String text : script.split(";")) {
            Object got = text.isBlank() ? "" : call(text);
            if (got instanceof String && ((String) got).startsWith("throws")) {
                throw new IllegalStateException(text + " " + got);
            }
        }
        return this;
    }

    /** Looks whether a call answers what is due. */
    public void is(String text, Object want) {
        Due.is(text, call(text), want);
    }

    /** Looks whether a call throws the exception of this name. */
    public void throwsOne(String text, String want) {
        Due.is(text, call(text), "throws java.lang." + want);
    }

    /** The calls that make the next picture of a text: lines with "/" between, "#" for black. */
    public static String drawing(int pic, String lines) {
        StringBuilder script = new StringBuilder("blank;");
        int line = 0;
        for (String signs : lines.split("/")) {
            int bits = 0;
            for (int column = 0; column < signs.length(); column++) {
                bits += signs.charAt(column) == '#' ? 1 << column : 0;
            }
            if (bits != 0) {
                script.append("draw ").append(pic).append(' ').append(line).append(' ').append(bits).append(';');
            }
            line++;
        }
        return script.toString();
    }
}
