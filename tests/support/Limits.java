import java.util.ArrayList;
import java.util.List;
import java.util.TreeSet;

/**
 * What each method takes, value by value, and what is due if one is not taken: the "Throws" of all
 * promises as a table.
 *
 * <p>A word such as picture or line is a number of things of which there are so many, for which
 * IndexOutOfBoundsException is due; two numbers with ".." between are bounds, for which
 * IllegalArgumentException is due ("@2" is the value with the number 2); room, film, some and
 * pattern tell what has to be so in the house, for which IllegalStateException is due.
 */
public final class Limits {
    private static final String[] ROWS = {
        "blank room", "drop some", "cut", "knock", "isSound", "digest",
        "put picture line 0..15 @2..15", "take picture line 0..15 @2..15", "draw picture line 0..65535",
        "copy picture room", "join picture picture 0..3 room", "not picture room", "mirror picture 0..2 room",
        "move picture -16..16 -16..16 room", "scale picture 1..4 room", "grow picture 0..511 room",
        "shrink picture 0..511 room", "open picture 0..511 room", "close picture 0..511 room",
        "thin picture room", "skeleton picture room", "part picture way part room",
        "fillHoles picture way room", "refill picture way room", "readBack picture 0..2 room",
        "shoot picture film", "frame frame room", "text picture line", "runs picture line",
        "ofPicture picture 0..13", "compare picture picture 0..3", "partOf picture way line column",
        "ofPart picture way part 0..6", "ofHole picture way hole 0..3", "largest picture way",
        "tree picture way", "outlines picture way", "outline picture way outline",
        "ofOutline picture way outline 0..3", "nearest picture 0..2 line column",
        "nearestCell picture 0..2 line column", "farthest picture 0..2",
        "places picture picture 0..50 pattern", "placeAt picture picture 0..50 0..2147483647 pattern",
        "sum picture 0..11 0..15 @1..11 @2..15", "densest picture 1..12 1..16", "packed picture 0..2",
        "leastPacked picture", "ofFilm 0..4", "label frame line column", "labels frame", "house 0..4"
    };
    public static final String NO_INDEX = "throws java.lang.IndexOutOfBoundsException";
    public static final String NO_ARGUMENT = "throws java.lang.IllegalArgumentException";
    public static final String NO_STATE = "throws java.lang.IllegalStateException";

    private final int pictures;
    private final int frames;
    /** Of each picture: parts by four, by eight, holes by four, by eight, black cells. */
    private final int[][] counts;

    /** The limits after a run of calls, as the document's words done plainly tell them. */
    public Limits(String script) {
        Asked plain = Asked.plain().run(script);
        pictures = (Integer) plain.call("house 0");
        frames = (Integer) plain.call("ofFilm 0");
        counts = new int[pictures][5];
        for (int pic = 0; pic < pictures; pic++) {
            for (int n = 0; n < 5; n++) {
                counts[pic][n] = (Integer) plain.call("ofPicture " + pic + " " + (n + 3) % 7);
            }
        }
    }

    public static String[] rows() {
        return ROWS.clone();
    }

    /** The words of a row that are values of the call. */
    public static List<String> valuesOf(String row) {
        List<String> words = new ArrayList<>(List.of(row.split(" ")));
        words.remove(0);
        words.removeIf(word -> List.of("room", "film", "some", "pattern").contains(word));
        return words;
    }

    /** The least and the greatest value that is taken behind those that are there already. */
    public long[] bounds(String word, List<String> values) {
        if (word.contains("..")) {
            String[] ends = word.split("\\.\\.");
            boolean isNamed = ends[0].startsWith("@");
            String least = isNamed ? values.get(Integer.parseInt(ends[0].substring(1))) : ends[0];
            return new long[] {Long.parseLong(least), Long.parseLong(ends[1])};
        }
        return new long[] {0, count(word, values) - 1};
    }

    private int count(String word, List<String> values) {
        switch (word) {
            case "picture":
                return pictures;
            case "frame":
                return frames;
            case "line":
                return 12;
            case "column":
                return 16;
            default:
                return isOut(values.get(0), pictures) ? 0 : things(word, values);
        }
    }

    /** An outline goes round each part and each hole. */
    private int things(String word, List<String> values) {
        int way = values.get(1).equals("true") ? 1 : 0;
        int[] of = counts[Integer.parseInt(values.get(0))];
        return word.equals("part") ? of[way] : word.equals("hole") ? of[2 + way] : of[way] + of[2 + way];
    }

    private static boolean isOut(String value, int count) {
        return Integer.parseInt(value) < 0 || Integer.parseInt(value) >= count;
    }

    /** The last ones that are taken, the first ones that are refused, and those far away. */
    public List<String> valuesToTry(String word, List<String> values) {
        if (word.equals("way")) {
            return List.of("false", "true");
        }
        long[] bounds = bounds(word, values);
        TreeSet<Long> all = new TreeSet<>();
        for (long near : new long[] {bounds[0] - 1, bounds[0], bounds[1], bounds[1] + 1}) {
            all.add(Math.max(Integer.MIN_VALUE, Math.min(Integer.MAX_VALUE, near)));
        }
        all.add((long) Integer.MIN_VALUE);
        all.add((long) Integer.MAX_VALUE);
        return all.stream().map(String::valueOf).toList();
    }

    /** Those of these values that are not taken, each with its place. */
    public List<String> wrongOnes(String row, List<String> values) {
        List<String> wrong = new ArrayList<>();
        List<String> words = valuesOf(row);
        for (int n = 0; n < values.size(); n++) {
            if (!isTaken(words.get(n), values.subList(0, n), values.get(n))) {
                wrong.add(n + ":" + values.get(n));
            }
        }
        return wrong;
    }

    private boolean isTaken(String word, List<String> ahead, String value) {
        if (word.equals("way")) {
            return true;
        }
        long[] bounds = bounds(word, ahead);
        return Long.parseLong(value) >= bounds[0] && Long.parseLong(value) <= bounds[1];
    }

    /** What has to be thrown, of several the one that is named first; "" if nothing. */
    public String due(String row, List<String> values) {
        List<String> words = valuesOf(row);
        String due = hasState(row, values) ? "" : NO_STATE;
        for (int n = 0; n < words.size(); n++) {
            if (!isTaken(words.get(n), values.subList(0, n), values.get(n))) {
                boolean isIndex = !words.get(n).contains("..");
                due = isIndex || due.equals(NO_INDEX) ? NO_INDEX : NO_ARGUMENT;
            }
        }
        return due;
    }

    private boolean hasState(String row, List<String> values) {
        if (row.endsWith(" room")) {
            return pictures < 8;
        }
        if (row.endsWith(" film")) {
            return frames < 8;
        }
        if (row.endsWith(" some")) {
            return pictures > 0;
        }
        boolean isPattern = row.endsWith(" pattern") && !isOut(values.get(1), pictures);
        return !isPattern || counts[Integer.parseInt(values.get(1))][4] > 0;
    }
}
