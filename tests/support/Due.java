/** Counts the answers that are not due, and prints them. */
public final class Due {
    /** A call whose answer or exception is looked at. */
    public interface Call {
        Object answer();
    }

    private static int wrong = 0;
    private static int looked = 0;

    private Due() {
    }

    /** Looks whether a call answers what is due. */
    public static void is(String call, Object got, Object want) {
        looked++;
        if (!want.equals(got)) {
            wrong++;
            System.out.println(call + " answered " + got + ", due is " + want);
        }
    }

    /** Looks whether a call throws just this exception, and leaves the object as it was. */
    public static void isThrown(
            Runpicture x, String call, Class<? extends RuntimeException> want, Call called) {
        String before = stateOf(x);
        is(call, outcome(called), want.getSimpleName());
        is(call + " changes nothing", stateOf(x), before);
    }

    /** IndexOutOfBoundsException is due. */
    public static void noIndex(Runpicture x, String call, Call called) {
        isThrown(x, call, IndexOutOfBoundsException.class, called);
    }

    /** IllegalArgumentException is due. */
    public static void noArgument(Runpicture x, String call, Call called) {
        isThrown(x, call, IllegalArgumentException.class, called);
    }

    /** IllegalStateException is due. */
    public static void noState(Runpicture x, String call, Call called) {
        isThrown(x, call, IllegalStateException.class, called);
    }

    /** The answer of a call, or the name of the exception that it throws. */
    public static Object outcome(Call called) {
        try {
            return called.answer();
        } catch (RuntimeException e) {
            return e.getClass().getSimpleName();
        }
    }

    /** One call alone, as an object has just 512; LimitsTest asks all there is to ask. */
    public static String stateOf(Runpicture x) {
        return Long.toString(x.digest());
    }

    /** Makes one more picture of a text: lines with "/" between, "#" for black. */
    public static int drawn(Runpicture x, String lines) {
        int pic = x.blank();
        int line = 0;
        for (String signs : lines.split("/")) {
            for (int column = 0; column < signs.length(); column++) {
                if (signs.charAt(column) == '#') {
                    x.put(pic, line, column, column);
                }
            }
            line++;
        }
        return pic;
    }

    /** A picture as such a text, without the white ends of lines and the white lines at the end. */
    public static String shown(Runpicture x, int pic) {
        StringBuilder all = new StringBuilder();
        for (int line = 0; line < 12; line++) {
            String signs = x.text(pic, line);
            all.append(signs, 0, signs.lastIndexOf('#') + 1).append('/');
        }
        int end = all.lastIndexOf("#") + 1;
        return all.substring(0, end);
    }

    /** Drops pictures till so many are left. */
    public static void dropTo(Runpicture x, int count) {
        while (x.house(0) > count) {
            x.drop();
        }
    }

    /** Makes white pictures till there are 8. */
    public static void fill(Runpicture x) {
        while (x.house(0) < 8) {
            x.blank();
        }
    }

    /** Ends the test: exit code 1 if an answer was not due, or nothing was looked at. */
    public static void end() {
        System.out.println(looked + " answers looked at, " + wrong + " wrong");
        if (wrong > 0 || looked == 0) {
            System.exit(1);
        }
    }
}
