/**
 * The edges of what the document tells in its part 4, and of promises 21 and 35 to 37: corners at
 * the edge, corners where two steps go, outlines of holes, how many there can be.
 */
public final class OutlineEdgesTest {
    /** Between its two black parts by four there is a corner at which its hole's outline begins. */
    private static final String PENINSULA = "#####/##..#/#.#.#/#...#/#####";

    public static void main(String[] args) {
        withoutBlackCells();
        cellsInTheCorners();
        cornersTwelveAndSixteen();
        allButACell();
        oneHole();
        holeAtTheEdgeHasNoOutline();
        leftByEightRightByFour();
        backAtTheFirstStep();
        beginsWithTheSmallestLine();
        asManyAsThereCanBe();
        manySteps();
        numbersAndWhat();
        filledToTheLastColumn();
        Due.end();
    }

    private static Runpicture of(String lines) {
        Runpicture x = new Runpicture();
        Due.drawn(x, lines);
        return x;
    }

    private static Runpicture black() {
        Runpicture x = new Runpicture();
        x.blank();
        for (int line = 0; line < 12; line++) {
            x.draw(0, line, 65535);
        }
        return x;
    }

    private static void tells(Runpicture x, boolean isEight, int k, String steps, int line, int column, int area) {
        String call = "outline " + k + " " + isEight;
        Due.is(call, x.outline(0, isEight, k), steps);
        Due.is(call + " line", x.ofOutline(0, isEight, k, 0), line);
        Due.is(call + " column", x.ofOutline(0, isEight, k, 1), column);
        Due.is(call + " length", x.ofOutline(0, isEight, k, 2), steps.length());
        Due.is(call + " area", x.ofOutline(0, isEight, k, 3), area);
    }

    private static void isFilledAlike(Runpicture x) {
        for (boolean isEight : new boolean[] {false, true}) {
            int made = x.refill(0, isEight);
            Due.is("filled by its outlines", x.compare(0, made, 0), 1);
            x.drop();
        }
    }

    private static void withoutBlackCells() {
        Runpicture x = of("");
        for (boolean isEight : new boolean[] {false, true}) {
            Due.is("outlines", x.outlines(0, isEight), 0);
            Due.noIndex(x, "outline", () -> x.outline(0, isEight, 0));
            Due.noIndex(x, "ofOutline", () -> x.ofOutline(0, isEight, 0, 0));
        }
        isFilledAlike(x);
    }

    private static void cellsInTheCorners() {
        for (int[] at : new int[][] {{0, 0}, {0, 15}, {11, 0}, {11, 15}}) {
            Runpicture x = of("");
            x.put(0, at[0], at[1], at[1]);
            for (boolean isEight : new boolean[] {false, true}) {
                Due.is("one", x.outlines(0, isEight), 1);
                tells(x, isEight, 0, "ESWN", at[0], at[1], 1);
            }
            isFilledAlike(x);
        }
    }

    private static void cornersTwelveAndSixteen() {
        Runpicture x = black();
        String round = "E".repeat(16) + "S".repeat(12) + "W".repeat(16) + "N".repeat(12);
        tells(x, true, 0, round, 0, 0, 192);
        tells(x, false, 0, round, 0, 0, 192);
        isFilledAlike(x);
        Runpicture line = of("///////////################");
        tells(line, true, 0, "E".repeat(16) + "S" + "W".repeat(16) + "N", 11, 0, 16);
        isFilledAlike(line);
        Runpicture column = of(("...............#/").repeat(12));
        tells(column, true, 0, "E" + "S".repeat(12) + "W" + "N".repeat(12), 0, 15, 12);
        isFilledAlike(column);
    }

    private static void allButACell() {
        Runpicture x = black();
        x.take(0, 0, 0, 0);
        tells(x, true, 0, "E".repeat(15) + "S".repeat(12) + "W".repeat(16) + "N".repeat(11) + "EN", 0, 1, 191);
        x = black();
        x.take(0, 11, 15, 15);
        tells(x, false, 0, "E".repeat(16) + "S".repeat(11) + "WS" + "W".repeat(15) + "N".repeat(12), 0, 0, 191);
        isFilledAlike(x);
    }

    private static void oneHole() {
        for (int[] at : new int[][] {{1, 1}, {1, 14}, {10, 1}, {10, 14}}) {
            Runpicture x = black();
            x.take(0, at[0], at[1], at[1]);
            for (boolean isEight : new boolean[] {false, true}) {
                Due.is("two", x.outlines(0, isEight), 2);
                tells(x, isEight, 1, "ENWS", at[0] + 1, at[1], -1);
            }
            isFilledAlike(x);
        }
    }

    private static void holeAtTheEdgeHasNoOutline() {
        Runpicture x = black();
        x.take(0, 0, 7, 7);
        for (boolean isEight : new boolean[] {false, true}) {
            Due.is("one", x.outlines(0, isEight), 1);
            Due.is("its length", x.ofOutline(0, isEight, 0, 2), 58);
            Due.is("its area", x.ofOutline(0, isEight, 0, 3), 191);
        }
    }

    /** Each of the four ways to come to a corner at which two steps go on. */
    private static void leftByEightRightByFour() {
        Runpicture falling = of("#/.#");
        tells(falling, true, 0, "ESESWNWN", 0, 0, 2);
        tells(falling, false, 0, "ESWN", 0, 0, 1);
        tells(falling, false, 1, "ESWN", 1, 1, 1);
        Runpicture rising = of(".#/#");
        tells(rising, true, 0, "ESWSWNEN", 0, 1, 2);
        tells(rising, false, 0, "ESWN", 0, 1, 1);
        tells(rising, false, 1, "ESWN", 1, 0, 1);
        isFilledAlike(falling);
        isFilledAlike(rising);
    }

    /**
     * The corner at which an outline begins may be passed before the outline is back; promise 52
     * tells it, as there are as many outlines as parts and holes (SoundTest).
     */
    private static void backAtTheFirstStep() {
        Runpicture x = of(PENINSULA);
        Due.is("by eight", x.outlines(0, true), 2);
        tells(x, true, 1, "ESWNWSSEEENNNWWS", 2, 2, -7);
        Due.is("by four", x.outlines(0, false), 3);
        tells(x, false, 1, "ESWN", 2, 2, 1);
        tells(x, false, 2, "EEENNNWWSWSS", 4, 1, -8);
        isFilledAlike(x);
        Runpicture four = of("####/##.#/#.##/####");
        tells(four, false, 1, "ENWSWSEN", 2, 2, -2);
        tells(four, true, 1, "ENWS", 2, 2, -1);
        tells(four, true, 2, "ENWS", 3, 1, -1);
        isFilledAlike(four);
        Due.is("sound", x.isSound() && four.isSound(), true);
    }

    private static void beginsWithTheSmallestLine() {
        Runpicture x = of("...#/.###/###/...#");
        Due.is("the top, not the left", x.ofOutline(0, false, 0, 1), 3);
        tells(x, false, 0, "ESSWSWWWNENEEN", 0, 3, 7);
        tells(x, false, 1, "ESWN", 3, 3, 1);
        Runpicture hole = of("######/#....#/#.##.#/#.##.#/######");
        Due.is("outlines", hole.outlines(0, true), 2);
        tells(hole, true, 1, "EESSENNNWWWWSSSENN", 2, 2, -8);
        isFilledAlike(hole);
    }

    private static void asManyAsThereCanBe() {
        Runpicture x = new Runpicture();
        x.blank();
        for (int line = 0; line < 12; line++) {
            x.draw(0, line, line % 2 == 0 ? 21845 : 43690);
        }
        Due.is("by four", x.outlines(0, false), 96);
        tells(x, false, 95, "ESWN", 11, 15, 1);
        Due.noIndex(x, "by four no more", () -> x.outline(0, false, 96));
        Due.noIndex(x, "by four no more", () -> x.ofOutline(0, false, 96, 0));
        Due.is("by eight", x.outlines(0, true), 71);
        tells(x, true, 70, "ENWS", 11, 13, -1);
        Due.noIndex(x, "by eight no more", () -> x.outline(0, true, 71));
        Due.noIndex(x, "by eight no more", () -> x.ofOutline(0, true, 71, 0));
        isFilledAlike(x);
    }

    /** A comb has more steps than any block of cells. */
    private static void manySteps() {
        Runpicture x = new Runpicture();
        x.blank();
        x.draw(0, 0, 65535);
        for (int line = 1; line < 12; line++) {
            x.draw(0, line, 21845);
        }
        Due.is("one", x.outlines(0, false), 1);
        Due.is("length", x.ofOutline(0, false, 0, 2), 16 + 12 + 1 + 15 + 22 * 7 + 12);
        Due.is("steps", x.outline(0, false, 0).length(), 210);
        Due.is("area", x.ofOutline(0, false, 0, 3), 16 + 11 * 8);
        x = new Runpicture();
        x.blank();
        for (int line = 0; line < 12; line++) {
            x.draw(0, line, line % 2 == 0 ? 21845 : 43690);
        }
        for (int line = 1; line < 11; line++) {
            x.put(0, line, 0, 0);
        }
        isFilledAlike(x);
        Due.is("sound", x.isSound(), true);
    }

    private static void numbersAndWhat() {
        Runpicture x = of("#");
        Due.is("the last what", x.ofOutline(0, true, 0, 3), 1);
        Due.noArgument(x, "what", () -> x.ofOutline(0, true, 0, 4));
        Due.noArgument(x, "what", () -> x.ofOutline(0, true, 0, -1));
        Due.noIndex(x, "number", () -> x.ofOutline(0, true, 1, 3));
        Due.noIndex(x, "number", () -> x.ofOutline(0, true, -1, 3));
        Due.noIndex(x, "number and what", () -> x.ofOutline(0, true, 1, 4));
        Due.noIndex(x, "picture", () -> x.outlines(1, true));
        Due.noIndex(x, "picture", () -> x.outlines(-1, true));
        Due.fill(x);
        Due.is("the eighth", x.outlines(7, true), 0);
        Due.noIndex(x, "picture", () -> x.outlines(8, true));
        Due.noState(x, "refill in a full house", () -> x.refill(0, true));
        Due.noIndex(x, "refill of none there", () -> x.refill(8, true));
    }

    /** Steps at column 16 have no cells at it or to the right, those at column 0 a whole line. */
    private static void filledToTheLastColumn() {
        Runpicture x = of("################/...............#/#/#..............#");
        isFilledAlike(x);
        int made = x.refill(0, true);
        Due.is("a line", x.runs(made, 0), "0-15");
        Due.is("its last cell", x.runs(made, 1), "15-15");
        Due.is("its first cell", x.runs(made, 2), "0-0");
        Due.is("both", x.runs(made, 3), "0-0 15-15");
    }
}
