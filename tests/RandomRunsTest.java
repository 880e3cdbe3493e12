import java.lang.reflect.InvocationTargetException;
import java.lang.reflect.Method;
import java.util.ArrayList;
import java.util.Arrays;
import java.util.Comparator;
import java.util.List;

/** Long runs of all kinds of calls, each answered by the class and by Plain, all promises. */
public final class RandomRunsTest {
    private static long seed = 20261119;

    public static void main(String[] args) throws IllegalAccessException {
        int runs = args.length > 0 ? Integer.parseInt(args[0]) : 12;
        List<Method> face = new ArrayList<>(Arrays.asList(Plain.class.getDeclaredMethods()));
        face.removeIf(method -> !java.lang.reflect.Modifier.isPublic(method.getModifiers()));
        face.sort(Comparator.comparing(Method::getName));
        Due.is("methods of the face", face.size(), 52);
        for (int run = 0; run < runs; run++) {
            oneRun(run, face);
        }
        Due.end();
    }

    /** The same numbers each time, so that a wrong run can be run again. */
    private static int next(int bound) {
        seed = seed * 6364136223846793005L + 1442695040888963407L;
        return (int) ((seed >>> 33) % bound);
    }

    private static void oneRun(int run, List<Method> face) throws IllegalAccessException {
        Runpicture x = new Runpicture();
        Plain plain = new Plain();
        for (int n = 0; n < 500; n++) {
            Method method = face.get(next(face.size()));
            if (n % 3 == 0 || n < 4) {
                prepare(x, plain);
            }
            Object[] values = argumentsOf(method, x);
            String call = "run " + run + " call " + n + " " + method.getName() + Arrays.toString(values);
            Object want = answer(plain, method, values);
            Due.is(call, answer(x, same(method), values), want);
        }
        Due.is("run " + run + " digest", x.digest(), plain.digest());
    }

    private static Method same(Method method) {
        try {
            return Runpicture.class.getMethod(method.getName(), method.getParameterTypes());
        } catch (NoSuchMethodException e) {
            throw new IllegalStateException(method.getName());
        }
    }

    private static Object answer(Object of, Method method, Object[] values) throws IllegalAccessException {
        try {
            return method.invoke(of, values);
        } catch (InvocationTargetException e) {
            return e.getCause().getClass().getName();
        }
    }

    /** Makes room now and then, and pictures of many kinds: few cells, many, runs, checks. */
    private static void prepare(Runpicture x, Plain plain) {
        if (x.house(0) == 8) {
            for (int drops = next(4); drops > 0; drops--) {
                x.drop();
                plain.drop();
            }
        }
        if (x.house(0) == 0) {
            x.blank();
            plain.blank();
        }
        int pic = next(x.house(0));
        int kind = next(6);
        for (int line = 0; line < 12; line++) {
            int bits = lineOf(kind, line, x, pic);
            x.draw(pic, line, bits);
            plain.draw(pic, line, bits);
        }
    }

    private static int lineOf(int kind, int line, Runpicture x, int pic) {
        int any = next(65536);
        switch (kind) {
            case 0:
                return any;
            case 1:
                return any & next(65536);
            case 2:
                return any | next(65536);
            case 3:
                return any & next(65536) & next(65536);
            case 4:
                return next(3) > 0 ? (line % 2 == 0 ? 65535 : any & 43690) : any | 21845;
            default:
                return (line % 4 == 0 ? 65535 : line % 2 == 0 ? 39321 ^ 1 << next(16) : 4369) & (next(8) > 0 ? 65535 : any);
        }
    }

    private static Object[] argumentsOf(Method method, Runpicture x) {
        Class<?>[] kinds = method.getParameterTypes();
        Object[] values = new Object[kinds.length];
        for (int n = 0; n < kinds.length; n++) {
            values[n] = kinds[n] == boolean.class ? (Object) (next(2) == 1) : (Object) number(n, method, x);
        }
        if (method.getName().equals("sum") && next(4) > 0) {
            int top = next(12);
            int left = next(16);
            return new Object[] {values[0], top, left, top + next(12 - top), left + next(16 - left)};
        }
        return values;
    }

    private static int number(int n, Method method, Runpicture x) {
        int wild = next(25);
        if (wild == 0) {
            return new int[] {-1, 16, 12, Integer.MAX_VALUE, Integer.MIN_VALUE, 512, 65536}[next(7)];
        }
        String name = method.getName();
        boolean isFrame = name.equals("frame") || name.startsWith("label");
        if (n == 0 && !name.equals("house") && !name.equals("ofFilm")) {
            return next((isFrame ? x.ofFilm(0) : x.house(0)) + (next(10) == 0 ? 2 : 1) + 1) - (next(20) == 0 ? 1 : 0);
        }
        if (n == 1 && (name.equals("join") || name.equals("compare") || name.startsWith("place"))) {
            return next(Math.max(1, x.house(0)));
        }
        if (name.equals("grow") || name.equals("shrink") || name.equals("open") || name.equals("close")) {
            return next(512);
        }
        if (name.equals("draw") && n == 2) {
            return next(65536);
        }
        if (name.startsWith("place") && n == 2) {
            return next(next(3) == 0 ? 51 : 6);
        }
        return next(new int[] {3, 5, 9, 13, 17}[next(5)]);
    }
}
