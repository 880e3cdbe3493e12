/** Promises 21 and 35 to 37: outlines, and pictures filled by them. */
public final class OutlinesTest {
    public static void main(String[] args) {
        simple();
        whereTwoStepsGo();
        holeThatComesBackToItsCorner();
        edges();
        wrongOnes();
        Due.end();
    }

    private static void simple() {
        Runpicture x = new Runpicture();
        x.blank();
        Due.is("none", x.outlines(0, true), 0);
        Due.drawn(x, "/..#");
        tells(x, 1, true, 0, "ESWN", 1, 2, 1);
        tells(x, 1, false, 0, "ESWN", 1, 2, 1);
        Due.drawn(x, "###/#.#/###");
        Due.is("two", x.outlines(2, true), 2);
        tells(x, 2, true, 0, "EEESSSWWWNNN", 0, 0, 9);
        tells(x, 2, true, 1, "ENWS", 2, 1, -1);
        Due.drawn(x, "..##/###/.#");
        Due.is("one", x.outlines(3, false), 1);
        tells(x, 3, false, 0, "EESWSWSWNWNEEN", 0, 2, 6);
    }

    private static void whereTwoStepsGo() {
        Runpicture x = new Runpicture();
        Due.drawn(x, "#/.#");
        Due.is("by four two", x.outlines(0, false), 2);
        tells(x, 0, false, 0, "ESWN", 0, 0, 1);
        tells(x, 0, false, 1, "ESWN", 1, 1, 1);
        Due.is("by eight one", x.outlines(0, true), 1);
        tells(x, 0, true, 0, "ESESWNWN", 0, 0, 2);
        Due.drawn(x, ".#/#");
        Due.is("by four two", x.outlines(1, false), 2);
        tells(x, 1, false, 1, "ESWN", 1, 0, 1);
        Due.is("by eight one", x.outlines(1, true), 1);
        tells(x, 1, true, 0, "ESWSWNEN", 0, 1, 2);
        Due.drawn(x, ".#/#.#/.#");
        Due.is("by eight with a hole", x.outlines(2, true), 2);
        tells(x, 2, true, 1, "ENWS", 2, 1, -1);
        Due.is("by four four", x.outlines(2, false), 4);
    }

    /** By four, this hole's outline comes to the corner at which it begins once before its end. */
    private static void holeThatComesBackToItsCorner() {
        Runpicture x = new Runpicture();
        Due.drawn(x, "####/##.#/#.##/####");
        Due.is("by four", x.outlines(0, false), 2);
        tells(x, 0, false, 1, "ENWSWSEN", 2, 2, -2);
        Due.is("by eight", x.outlines(0, true), 3);
        tells(x, 0, true, 1, "ENWS", 2, 2, -1);
        tells(x, 0, true, 2, "ENWS", 3, 1, -1);
    }

    private static void edges() {
        Runpicture x = new Runpicture();
        x.blank();
        x.not(0);
        Due.is("all black", x.outline(1, true, 0), "E".repeat(16) + "S".repeat(12) + "W".repeat(16) + "N".repeat(12));
        Due.is("its area", x.ofOutline(1, true, 0, 3), 192);
        x.draw(0, 11, 32768);
        tells(x, 0, false, 0, "ESWN", 11, 15, 1);
        for (int line = 0; line < 12; line++) {
            x.draw(0, line, line % 2 == 0 ? 21845 : 43690);
        }
        Due.is("most by four", x.outlines(0, false), 96);
        tells(x, 0, false, 95, "ESWN", 11, 15, 1);
        Due.is("by eight", x.outlines(0, true), 71);
        Due.is("longest", x.ofOutline(0, true, 0, 2), 384 - 4 * 70);
        for (int pic = 0; pic < 2; pic++) {
            Due.is("refill by four", x.refill(pic, false), 2);
            Due.is("refill by eight", x.refill(pic, true), 3);
            Due.is("alike", x.compare(pic, 2, 0), 1);
            Due.is("alike", x.compare(pic, 3, 0), 1);
            Due.dropTo(x, 2);
        }
    }

    private static void tells(
            Runpicture x, int pic, boolean isEight, int k, String steps, int line, int column, int area) {
        String call = "outline " + pic + " " + isEight + " " + k;
        Due.is(call, x.outline(pic, isEight, k), steps);
        Due.is(call + " line", x.ofOutline(pic, isEight, k, 0), line);
        Due.is(call + " column", x.ofOutline(pic, isEight, k, 1), column);
        Due.is(call + " length", x.ofOutline(pic, isEight, k, 2), steps.length());
        Due.is(call + " area", x.ofOutline(pic, isEight, k, 3), area);
    }

    private static void wrongOnes() {
        Runpicture x = new Runpicture();
        Due.drawn(x, "#/.#");
        for (int pic : new int[] {-1, 1, Integer.MAX_VALUE}) {
            Due.noIndex(x, "outlines", () -> x.outlines(pic, true));
            Due.noIndex(x, "outline", () -> x.outline(pic, true, 0));
            Due.noIndex(x, "ofOutline", () -> x.ofOutline(pic, true, 0, 4));
            Due.noIndex(x, "refill", () -> x.refill(pic, true));
        }
        for (int k : new int[] {-1, 1, Integer.MAX_VALUE, Integer.MIN_VALUE}) {
            Due.noIndex(x, "outline", () -> x.outline(0, true, k));
            Due.noIndex(x, "ofOutline", () -> x.ofOutline(0, true, k, 0));
            Due.noIndex(x, "ofOutline, wrong what too", () -> x.ofOutline(0, true, k, 4));
        }
        Due.noArgument(x, "ofOutline", () -> x.ofOutline(0, false, 1, 4));
        Due.noArgument(x, "ofOutline", () -> x.ofOutline(0, false, 1, -1));
        Due.fill(x);
        Due.noState(x, "refill", () -> x.refill(0, true));
        Due.noIndex(x, "no such picture", () -> x.refill(8, true));
    }
}
