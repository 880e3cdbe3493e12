/**
 * The edges of what the document tells in its part 3, and of promises 19, 20 and 30 to 34: parts,
 * holes, what is outside, what lies in what.
 */
public final class RegionEdgesTest {
    /** Rings in rings, as many as there is room for. */
    private static final String DEEPEST =
            "###########/#.........#/#.#######.#/#.#.....#.#/#.#.###.#.#/#.#.#.#.#.#/#.#.###.#.#/#.#.....#.#/"
            + "#.#######.#/#.........#/###########";

    public static void main(String[] args) {
        withoutBlackCells();
        allBlack();
        whatComesBeyondIsOutside();
        cornersLeadBeyondByEight();
        bothSidesOfALineAreOutside();
        linesDoNotGoOn();
        numberedByFirstCells();
        asManyAsThereCanBe();
        asDeepAsThereCanBe();
        partsAndHolesThatThereAreNot();
        holesThatTouchWithACorner();
        cellsOfThePicture();
        theFirstOfTheLargest();
        allHolesBlack();
        Due.end();
    }

    private static Runpicture of(String lines) {
        Runpicture x = new Runpicture();
        Due.drawn(x, lines);
        return x;
    }

    private static Runpicture black() {
        Runpicture x = new Runpicture();
        x.blank();
        for (int line = 0; line < 12; line++) {
            x.draw(0, line, 65535);
        }
        return x;
    }

    private static void withoutBlackCells() {
        for (boolean isEight : new boolean[] {false, true}) {
            Runpicture x = of("");
            Due.is("parts", x.ofPicture(0, isEight ? 4 : 3), 0);
            Due.is("holes", x.ofPicture(0, isEight ? 6 : 5), 0);
            Due.is("tree", x.tree(0, isEight), "");
            Due.is("largest", x.largest(0, isEight), -1);
            Due.is("partOf", x.partOf(0, isEight, 11, 15), -1);
            Due.noIndex(x, "part", () -> x.part(0, isEight, 0));
            Due.noIndex(x, "ofPart", () -> x.ofPart(0, isEight, 0, 0));
            Due.noIndex(x, "ofHole", () -> x.ofHole(0, isEight, 0, 0));
            x.fillHoles(0, isEight);
            Due.is("nothing to fill", x.ofPicture(1, 0), 0);
        }
    }

    private static void allBlack() {
        int[] due = {192, 0, 0, -1, 0, 12, 16};
        for (boolean isEight : new boolean[] {false, true}) {
            Runpicture x = black();
            Due.is("parts", x.ofPicture(0, isEight ? 4 : 3), 1);
            Due.is("holes", x.ofPicture(0, isEight ? 6 : 5), 0);
            for (int what = 0; what <= 6; what++) {
                Due.is("ofPart " + what, x.ofPart(0, isEight, 0, what), due[what]);
            }
            Due.is("tree", x.tree(0, isEight), "[]");
            Due.is("largest", x.largest(0, isEight), 0);
            Due.is("partOf", x.partOf(0, isEight, 11, 15), 0);
            Due.is("part", x.part(0, isEight, 0), 1);
            Due.is("all of it", x.compare(0, 1, 0), 1);
        }
    }

    private static void whatComesBeyondIsOutside() {
        int[][] cells = {
            {0, 0, 0}, {0, 5, 0}, {0, 15, 0}, {5, 0, 0}, {5, 15, 0}, {11, 0, 0}, {11, 5, 0}, {11, 15, 0},
            {1, 1, 1}, {1, 14, 1}, {10, 1, 1}, {10, 14, 1}, {1, 7, 1}, {10, 7, 1}, {6, 1, 1}, {6, 14, 1}
        };
        for (int[] cell : cells) {
            for (boolean isEight : new boolean[] {false, true}) {
                Runpicture x = black();
                x.take(0, cell[0], cell[1], cell[1]);
                String where = " at " + cell[0] + " " + cell[1];
                Due.is("holes" + where, x.ofPicture(0, isEight ? 6 : 5), cell[2]);
                Due.is("tree" + where, x.tree(0, isEight), cell[2] == 0 ? "[]" : "[()]");
                x.fillHoles(0, isEight);
                Due.is("filled" + where, x.ofPicture(1, 0), 191 + cell[2]);
                if (cell[2] == 1) {
                    Due.is("cells" + where, x.ofHole(0, isEight, 0, 0), 1);
                    Due.is("first cell" + where, x.ofHole(0, isEight, 0, 1), 16 * cell[0] + cell[1]);
                    Due.is("lies in" + where, x.ofHole(0, isEight, 0, 2), 0);
                    Due.is("parts in it" + where, x.ofHole(0, isEight, 0, 3), 0);
                }
            }
        }
    }

    private static void cornersLeadBeyondByEight() {
        int[][] cells = {{0, 0, 1, 1}, {0, 15, 1, 14}, {11, 0, 10, 1}, {11, 15, 10, 14}, {0, 6, 1, 7}, {5, 15, 6, 14}};
        for (int[] cell : cells) {
            Runpicture x = black();
            x.take(0, cell[0], cell[1], cell[1]);
            x.take(0, cell[2], cell[3], cell[3]);
            Due.is("white comes beyond by eight", x.ofPicture(0, 5), 0);
            Due.is("white does not by four", x.ofPicture(0, 6), 1);
            Due.is("its one cell", x.ofHole(0, true, 0, 0), 1);
            Due.is("it", x.ofHole(0, true, 0, 1), 16 * cell[2] + cell[3]);
            Due.noIndex(x, "no hole with black by four", () -> x.ofHole(0, false, 0, 0));
        }
    }

    private static void bothSidesOfALineAreOutside() {
        for (boolean isEight : new boolean[] {false, true}) {
            Runpicture x = of("");
            for (int line = 0; line < 12; line++) {
                x.put(0, line, 7, 7);
            }
            x.put(0, 5, 3, 3);
            x.put(0, 5, 12, 12);
            Due.is("no holes", x.ofPicture(0, isEight ? 6 : 5), 0);
            Due.is("all three outside", x.tree(0, isEight), "[][][]");
            for (int k = 0; k < 3; k++) {
                Due.is("in none", x.ofPart(0, isEight, k, 3), -1);
                Due.is("depth", x.ofPart(0, isEight, k, 4), 0);
            }
            x.draw(0, 6, 65535);
            Due.is("in the line", x.ofPicture(0, isEight ? 4 : 3), 1);
            Due.is("still no holes", x.ofPicture(0, isEight ? 6 : 5), 0);
        }
    }

    private static void linesDoNotGoOn() {
        Runpicture x = of("...............#/#/...............#/#");
        Due.is("by four", x.ofPicture(0, 3), 4);
        Due.is("by eight", x.ofPicture(0, 4), 4);
        x.put(0, 0, 0, 0);
        Due.is("the first column by four", x.ofPicture(0, 3), 4);
        Due.is("one of two cells", x.ofPart(0, false, 0, 0), 2);
        x.put(0, 1, 14, 14);
        Due.is("by a corner", x.ofPicture(0, 4), 3);
        Due.is("not by four", x.ofPicture(0, 3), 5);
        Due.is("columns", x.ofPart(0, true, 1, 6), 2);
        Due.is("lines", x.ofPart(0, true, 1, 5), 3);
    }

    private static void numberedByFirstCells() {
        Runpicture x = of("..#..#..#/#....#/######");
        int[] firsts = {2, 5, 8};
        for (int k = 0; k < 3; k++) {
            Due.is("first cell of " + k, x.ofPart(0, true, k, 1), firsts[k]);
        }
        Due.is("its cells", x.ofPart(0, true, 1, 0), 9);
        Due.is("a cell far left of its first", x.partOf(0, true, 1, 0), 1);
        Due.dropTo(x, 0);
        Due.drawn(x, "#######/###.#.#/#.#.#.#/#...###/#######");
        Due.is("holes", x.ofPicture(0, 6), 2);
        Due.is("first hole", x.ofHole(0, true, 0, 1), 19);
        Due.is("its cells", x.ofHole(0, true, 0, 0), 6);
        Due.is("second hole", x.ofHole(0, true, 1, 1), 21);
        Due.is("its cells", x.ofHole(0, true, 1, 0), 2);
    }

    private static void asManyAsThereCanBe() {
        Runpicture x = new Runpicture();
        x.blank();
        for (int line = 0; line < 12; line++) {
            x.draw(0, line, line % 2 == 0 ? 21845 : 43690);
        }
        tellsLast(x, 0, false, 96, 0);
        tellsLast(x, 0, true, 1, 70);
        Due.is("tree by four", x.tree(0, false), "[]".repeat(96));
        Due.is("tree by eight", x.tree(0, true), "[" + "()".repeat(70) + "]");
        Due.is("the last alone", x.part(0, false, 95), 1);
        Due.is("its cell", x.text(1, 11), "...............#");
        x.drop();
        x.blank();
        for (int line = 0; line < 12; line += 2) {
            x.draw(1, line, 21845);
        }
        tellsLast(x, 1, true, 48, 0);
        tellsLast(x, 1, false, 48, 0);
        x.not(1);
        x.blank();
        for (int line = 0; line < 12; line++) {
            x.draw(3, line, line % 2 == 1 && line < 11 ? 65535 - 10922 : 65535);
        }
        tellsLast(x, 3, false, 1, 35);
        tellsLast(x, 3, true, 1, 35);
        Due.is("tree", x.tree(3, false), "[" + "()".repeat(35) + "]");
        x.fillHoles(3, false);
        Due.is("filled", x.ofPicture(4, 0), 192);
    }

    private static void tellsLast(Runpicture x, int pic, boolean isEight, int parts, int holes) {
        Due.is("parts", x.ofPicture(pic, isEight ? 4 : 3), parts);
        Due.is("holes", x.ofPicture(pic, isEight ? 6 : 5), holes);
        Due.is("the last part", x.ofPart(pic, isEight, parts - 1, 2), parts == 1 ? holes : 0);
        Due.noIndex(x, "behind the last part", () -> x.ofPart(pic, isEight, parts, 0));
        Due.noIndex(x, "behind the last part", () -> x.part(pic, isEight, parts));
        Due.noIndex(x, "behind the last hole", () -> x.ofHole(pic, isEight, holes, 0));
        if (holes > 0) {
            Due.is("the last hole", x.ofHole(pic, isEight, holes - 1, 0), 1);
        }
    }

    private static void asDeepAsThereCanBe() {
        Runpicture x = of(DEEPEST);
        for (boolean isEight : new boolean[] {false, true}) {
            Due.is("tree", x.tree(0, isEight), "[([([()])])]");
            int[][] parts = {{40, 0, 1, -1, 0}, {24, 34, 1, 0, 1}, {8, 68, 1, 1, 2}};
            int[][] holes = {{32, 17, 0, 1}, {16, 51, 1, 1}, {1, 85, 2, 0}};
            for (int k = 0; k < 3; k++) {
                for (int what = 0; what <= 4; what++) {
                    Due.is("part " + k + " " + what, x.ofPart(0, isEight, k, what), parts[k][what]);
                }
                for (int what = 0; what <= 3; what++) {
                    Due.is("hole " + k + " " + what, x.ofHole(0, isEight, k, what), holes[k][what]);
                }
            }
        }
        x.put(0, 5, 0, 0);
        x.take(0, 5, 0, 0);
        Due.is("open to one side", x.tree(0, true), "[][([()])]");
        Due.is("less deep", x.ofPart(0, true, 2, 4), 1);
    }

    private static void partsAndHolesThatThereAreNot() {
        Runpicture x = of("###/#.#/###/...#");
        Due.is("by four two", x.ofPart(0, false, 1, 1), 51);
        Due.noIndex(x, "by four no third", () -> x.ofPart(0, false, 2, 1));
        Due.is("by eight one", x.ofPart(0, true, 0, 0), 9);
        Due.noIndex(x, "by eight no second", () -> x.ofPart(0, true, 1, 1));
        Due.is("one hole", x.ofHole(0, true, 0, 1), 17);
        Due.noIndex(x, "no second hole", () -> x.ofHole(0, true, 1, 1));
        Due.noIndex(x, "no part before the first", () -> x.part(0, true, -1));
        Due.noIndex(x, "no hole before the first", () -> x.ofHole(0, true, -1, 1));
        Due.noArgument(x, "what of a part", () -> x.ofPart(0, true, 0, 7));
        Due.noArgument(x, "what of a part", () -> x.ofPart(0, true, 0, -1));
        Due.noArgument(x, "what of a hole", () -> x.ofHole(0, true, 0, 4));
        Due.noArgument(x, "what of a hole", () -> x.ofHole(0, true, 0, -1));
        Due.noIndex(x, "no part and no such what", () -> x.ofPart(0, true, 1, 7));
        Due.noIndex(x, "no hole and no such what", () -> x.ofHole(0, true, 1, 4));
        Due.fill(x);
        Due.noIndex(x, "no part in a full house", () -> x.part(0, true, 1));
        Due.noState(x, "a part in a full house", () -> x.part(0, true, 0));
        Due.noIndex(x, "no picture in a full house", () -> x.fillHoles(8, true));
        Due.noState(x, "holes in a full house", () -> x.fillHoles(0, true));
    }

    private static void holesThatTouchWithACorner() {
        Runpicture x = of("####/#.##/##.#/####");
        Due.is("white by eight: one", x.ofPicture(0, 5), 1);
        Due.is("both cells", x.ofHole(0, false, 0, 0), 2);
        Due.is("white by four: two", x.ofPicture(0, 6), 2);
        Due.is("each in the one part", x.ofHole(0, true, 1, 2), 0);
        Due.dropTo(x, 0);
        Due.drawn(x, "####/#.##/##.#/###.");
        Due.is("white by eight: open", x.ofPicture(0, 5), 0);
        Due.is("white by four: two", x.ofPicture(0, 6), 2);
        Due.dropTo(x, 0);
        Due.drawn(x, "#####/#...#/#.#.#/#...#/####");
        Due.is("by four the ring is open at its corner", x.ofPicture(0, 5), 0);
        Due.is("so both parts are outside", x.tree(0, false), "[][]");
        Due.is("by eight it is closed", x.tree(0, true), "[([])]");
    }

    private static void cellsOfThePicture() {
        Runpicture x = of("#");
        x.put(0, 11, 15, 15);
        Due.is("the first cell", x.partOf(0, true, 0, 0), 0);
        Due.is("the last cell", x.partOf(0, true, 11, 15), 1);
        Due.is("a white cell", x.partOf(0, true, 11, 14), -1);
        for (int[] at : new int[][] {{-1, 0}, {0, -1}, {12, 15}, {11, 16}}) {
            Due.noIndex(x, "beyond", () -> x.partOf(0, true, at[0], at[1]));
            Due.noIndex(x, "beyond", () -> x.partOf(0, false, at[0], at[1]));
        }
        Due.dropTo(x, 0);
        Due.drawn(x, "###/#.#/###");
        Due.is("a cell of a hole", x.partOf(0, true, 1, 1), -1);
    }

    private static void theFirstOfTheLargest() {
        Due.is("a single cell", of("#").largest(0, true), 0);
        Due.is("single cells", of("#.#.#").largest(0, false), 0);
        Runpicture x = of("##.##.##");
        Due.is("all alike", x.largest(0, false), 0);
        x.put(0, 1, 7, 7);
        Due.is("the last one", x.largest(0, false), 2);
        x.put(0, 1, 3, 3);
        Due.is("the first of two", x.largest(0, false), 1);
        Due.dropTo(x, 0);
        Due.drawn(x, "#.###/.#");
        Due.is("by four", x.largest(0, false), 1);
        Due.is("by eight", x.largest(0, true), 0);
    }

    private static void allHolesBlack() {
        Runpicture x = of(DEEPEST);
        for (boolean isEight : new boolean[] {false, true}) {
            x.fillHoles(0, isEight);
            Due.is("holes in parts in holes, too", x.ofPicture(1, 0), 121);
            Due.is("none left", x.ofPicture(1, isEight ? 6 : 5), 0);
            x.part(0, isEight, 0);
            Due.is("a part alone has nothing in its hole", x.tree(2, isEight), "[()]");
            Due.is("all in its hole is white", x.ofHole(2, isEight, 0, 0), 81);
            Due.dropTo(x, 1);
        }
        x.not(0);
        x.fillHoles(1, true);
        Due.is("what is outside stays white", x.ofPicture(2, 0), 192 - 40);
    }
}
