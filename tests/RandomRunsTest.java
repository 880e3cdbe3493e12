import java.lang.reflect.Method;
import java.lang.reflect.Modifier;
import java.util.ArrayList;
import java.util.Arrays;
import java.util.Comparator;
import java.util.List;

/**
 * Runs of 512 calls of all kinds, all promises, each answered by three: the class, Plain, and an
 * object of the class that gets just those calls that are not refused, which must not be told apart.
 */
public final class RandomRunsTest {
    private static final int RUNS = 12;
    private static final String[] FAR = {"-1", "16", "12", "2147483647", "-2147483648", "512", "65536"};
    private static long seed = 20261119;

    public static void main(String[] args) {
        int runs = args.length > 0 ? Integer.parseInt(args[0]) : RUNS;
        List<Method> face = new ArrayList<>(Arrays.asList(Plain.class.getDeclaredMethods()));
        face.removeIf(method -> !Modifier.isPublic(method.getModifiers()));
        face.sort(Comparator.comparing(Method::getName));
        Due.is("methods of the face", face.size(), 52);
        for (int run = 0; run < runs; run++) {
            oneRun(run, face);
        }
        Due.end();
    }

    /** The same numbers each time, so that a wrong run can be run again. */
    private static int next(int bound) {
        seed = seed * 6364136223846793005L + 1442695040888963407L;
        return (int) ((seed >>> 33) % bound);
    }

    private static void oneRun(int run, List<Method> face) {
        Asked plain = Asked.plain();
        Asked made = Asked.made();
        Asked twin = Asked.made();
        List<String> planned = new ArrayList<>();
        for (int n = 0; n < Asked.MOST_CALLS; n++) {
            if (planned.isEmpty() && next(n < 20 ? 2 : 8) == 0) {
                prepare(plain, planned);
            }
            if (n == Asked.MOST_CALLS - 1) {
                planned.add(0, "digest");
            }
            String call = planned.isEmpty() ? anyCall(face.get(next(face.size())), plain) : planned.remove(0);
            String where = "run " + run + " call " + n + ": " + call;
            Object want = plain.call(call);
            Due.is(where, made.call(call), want);
            if (!want.toString().startsWith("throws")) {
                Due.is(where + ", without the refused calls", twin.call(call), want);
            }
        }
    }

    /** Makes room now and then, and pictures of many kinds: few cells, many, runs, checks. */
    private static void prepare(Asked plain, List<String> planned) {
        int pictures = (Integer) plain.call("house 0");
        if (pictures == 8) {
            for (int drops = next(4); drops > 0; drops--) {
                planned.add("drop");
                pictures--;
            }
        }
        if (pictures == 0) {
            planned.add("blank");
            pictures++;
        }
        int pic = next(pictures);
        int kind = next(6);
        for (int line = 0; line < 12; line++) {
            planned.add("draw " + pic + " " + line + " " + lineOf(kind, line));
        }
    }

    private static int lineOf(int kind, int line) {
        int any = next(65536);
        switch (kind) {
            case 0:
                return any;
            case 1:
                return any & next(65536);
            case 2:
                return any | next(65536);
            case 3:
                return any & next(65536) & next(65536);
            case 4:
                return next(3) > 0 ? (line % 2 == 0 ? 65535 : any & 43690) : any | 21845;
            default:
                return (line % 4 == 0 ? 65535 : line % 2 == 0 ? 39321 ^ 1 << next(16) : 4369) & (next(8) > 0 ? 65535 : any);
        }
    }

    private static String anyCall(Method method, Asked plain) {
        String name = method.getName();
        Class<?>[] kinds = method.getParameterTypes();
        List<String> words = new ArrayList<>(List.of(name));
        for (int n = 0; n < kinds.length; n++) {
            words.add(kinds[n] == boolean.class ? (next(2) == 1 ? "true" : "false") : number(n, name, plain));
        }
        if (name.equals("sum") && next(4) > 0) {
            int top = next(12);
            int left = next(16);
            int bottom = top + next(12 - top);
            return "sum " + words.get(1) + " " + top + " " + left + " " + bottom + " " + (left + next(16 - left));
        }
        return String.join(" ", words);
    }

    private static String number(int n, String name, Asked plain) {
        return next(25) == 0 ? FAR[next(FAR.length)] : Integer.toString(nearNumber(n, name, plain));
    }

    private static int nearNumber(int n, String name, Asked plain) {
        boolean isFrame = name.equals("frame") || name.startsWith("label");
        int pictures = (Integer) plain.call("house 0");
        if (n == 0 && !name.equals("house") && !name.equals("ofFilm")) {
            int count = isFrame ? (Integer) plain.call("ofFilm 0") : pictures;
            return next(Math.max(1, count) + (next(6) == 0 ? 1 : 0)) - (next(20) == 0 ? 1 : 0);
        }
        if (n == 1 && (name.equals("join") || name.equals("compare") || name.startsWith("place"))) {
            return next(Math.max(1, pictures));
        }
        if (name.equals("grow") || name.equals("shrink") || name.equals("open") || name.equals("close")) {
            return next(512);
        }
        if (name.equals("draw") && n == 2) {
            return next(65536);
        }
        if (name.startsWith("place") && n == 2) {
            return next(next(3) == 0 ? 51 : 6);
        }
        return next(new int[] {3, 5, 9, 13, 17}[next(5)]);
    }
}
