import java.util.ArrayList;
import java.util.HashMap;
import java.util.HashSet;
import java.util.List;
import java.util.Map;
import java.util.Set;
import java.util.TreeSet;

/**
 * Each "Throws" of each promise: the last value that is taken and the first one that is refused, on
 * both sides; of several exceptions the one that is named first; a refused call changes nothing.
 */
public final class LimitsTest {
    /** Parts, holes and outlines are not as many by four as by eight; the last cell; white. */
    private static final String THREE = Asked.drawing(0, "####/#.##/##.#/####/....#")
            + Asked.drawing(1, "///////////...............#") + "blank;";
    private static final String SEVEN = THREE + "not 1; copy 0; copy 1; blank;";
    private static final String TWO_FRAMES = "knock; shoot 0; shoot 1;";
    private static final String SEVEN_FRAMES = TWO_FRAMES + "shoot 0; shoot 2; shoot 1; shoot 0; shoot 0;";
    private static final String USUAL = THREE + TWO_FRAMES;
    private static final String[] STATES = {
        "", USUAL + "drop; drop; drop;", USUAL, SEVEN + SEVEN_FRAMES, SEVEN + "blank;",
        THREE + SEVEN_FRAMES + "shoot 2;", SEVEN + "blank;" + SEVEN_FRAMES + "shoot 2;"
    };
    private static final int PORTION = 210;
    private static final Set<String> ASKED = new HashSet<>();
    private static int turn = 0;
    private static final Map<String, Integer> TAKEN = new HashMap<>();
    private static final Map<String, Integer> REFUSED = new HashMap<>();

    public static void main(String[] args) {
        Set<String> named = new TreeSet<>();
        for (String row : Limits.rows()) {
            named.add(row.split(" ")[0]);
        }
        Due.is("methods with limits", named, Asked.face());
        for (String script : STATES) {
            Limits limits = new Limits(script);
            List<String> questions = Questions.after(script);
            for (String row : Limits.rows()) {
                tryAll(script, limits, questions, row, new ArrayList<>());
            }
        }
        for (String row : Limits.rows()) {
            Due.is(row + " was taken", TAKEN.containsKey(row), true);
            boolean hasLimits = row.contains(" ");
            Due.is(row + " was refused", REFUSED.containsKey(row), hasLimits);
        }
        Due.end();
    }

    /** All values to try of one word of the row behind those ahead; one far away is wrong alone. */
    private static void tryAll(
            String script, Limits limits, List<String> questions, String row, List<String> values) {
        List<String> words = Limits.valuesOf(row);
        if (values.size() == words.size()) {
            tryOne(script, limits, questions, row, values);
            return;
        }
        for (String value : limits.valuesToTry(words.get(values.size()), values)) {
            values.add(value);
            if (!isFarAway(values) || limits.wrongOnes(row, values).size() <= 1) {
                tryAll(script, limits, questions, row, values);
            }
            values.remove(values.size() - 1);
        }
    }

    private static void tryOne(
            String script, Limits limits, List<String> questions, String row, List<String> values) {
        String call = row.split(" ")[0] + " " + String.join(" ", values);
        String due = limits.due(row, values);
        Asked made = Asked.made().run(script);
        if (due.isEmpty()) {
            TAKEN.merge(row, 1, Integer::sum);
            Due.is(call + " behind " + script, made.call(call), Asked.plain().run(script).call(call));
            return;
        }
        REFUSED.merge(row, 1, Integer::sum);
        List<String> wrong = limits.wrongOnes(row, values);
        boolean isNew = wrong.size() <= 2 && ASKED.add(script + row + wrong);
        Object before = isNew ? made.call("digest") : "";
        Due.is(call + " behind " + script, made.call(call), due);
        Object behind = isNew ? made.call("digest") : "";
        Due.is(call + " changes nothing behind " + script, behind, before);
        if (isNew && wrong.size() <= 1) {
            changesNothing(script, questions, call);
        }
    }

    private static boolean isFarAway(List<String> values) {
        return values.contains("" + Integer.MIN_VALUE) || values.contains("" + Integer.MAX_VALUE);
    }

    /**
     * The same questions ahead of the refused call and behind it, in portions, each of a new object;
     * in the usual state all of them, in others one portion, another one each time.
     */
    private static void changesNothing(String script, List<String> questions, String call) {
        turn++;
        int portions = (questions.size() + PORTION - 1) / PORTION;
        for (int n = 0; n < portions; n++) {
            if (script.equals(USUAL) || n == turn % portions) {
                askTwice(script, questions, n * PORTION, call);
            }
        }
    }

    private static void askTwice(String script, List<String> questions, int begin, String call) {
        List<String> portion = questions.subList(begin, Math.min(questions.size(), begin + PORTION));
        Asked made = Asked.made().run(script);
        List<Object> before = portion.stream().map(made::call).toList();
        made.call(call);
        for (int n = 0; n < portion.size(); n++) {
            String what = portion.get(n) + " behind the refused " + call;
            Due.is(what, made.call(portion.get(n)), before.get(n));
        }
    }
}
