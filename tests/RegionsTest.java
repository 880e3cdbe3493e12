/** Promises 19, 20 and 30 to 34: parts, holes, and what lies in what. */
public final class RegionsTest {
    /** A ring with a ring and a cell in it, and a cell outside. */
    private static final String NESTED =
            "#########..#/#.......#/#.#####.#/#.#...#.#/#.#.#.#.#/#.#...#.#/#.#####.#/#.......#/#########";
    /** Two holes that touch with a corner, by eight; by four the left one goes out. */
    private static final String CORNERS = "####/#.##/##.#/####";

    public static void main(String[] args) {
        nested();
        corners();
        numbers();
        trees();
        largest();
        wrongOnes();
        Due.end();
    }

    private static void nested() {
        Runpicture x = new Runpicture();
        Due.drawn(x, NESTED);
        for (int way = 0; way < 2; way++) {
            boolean isEight = way == 1;
            Due.is("parts", x.ofPicture(0, 3 + way), 4);
            Due.is("holes", x.ofPicture(0, 5 + way), 2);
            int[][] parts = {
                {32, 0, 1, -1, 0, 9, 9}, {1, 11, 0, -1, 0, 1, 1}, {16, 34, 1, 0, 1, 5, 5}, {1, 68, 0, 1, 2, 1, 1}
            };
            for (int k = 0; k < 4; k++) {
                for (int what = 0; what <= 6; what++) {
                    Due.is("ofPart " + k + " " + what, x.ofPart(0, isEight, k, what), parts[k][what]);
                }
            }
            int[][] holes = {{24, 17, 0, 1}, {8, 51, 2, 1}};
            for (int k = 0; k < 2; k++) {
                for (int what = 0; what <= 3; what++) {
                    Due.is("ofHole " + k + " " + what, x.ofHole(0, isEight, k, what), holes[k][what]);
                }
            }
            Due.is("tree", x.tree(0, isEight), "[([([])])][]");
            Due.is("partOf", x.partOf(0, isEight, 4, 4), 3);
            Due.is("partOf", x.partOf(0, isEight, 8, 8), 0);
            Due.is("partOf a hole", x.partOf(0, isEight, 1, 1), -1);
            Due.is("partOf outside", x.partOf(0, isEight, 11, 15), -1);
            Due.is("part", x.part(0, isEight, 2), 1);
            Due.is("that part alone", Due.shown(x, 1), "//..#####/..#...#/..#...#/..#...#/..#####");
            Due.is("fillHoles", x.fillHoles(0, isEight), 2);
            Due.is("filled", x.ofPicture(2, 0), 82);
            Due.is("one run a line", x.runs(2, 4), "0-8");
            Due.dropTo(x, 1);
        }
    }

    private static void corners() {
        Runpicture x = new Runpicture();
        Due.drawn(x, CORNERS);
        Due.is("one hole with black by four", x.ofPicture(0, 5), 1);
        Due.is("two with black by eight", x.ofPicture(0, 6), 2);
        Due.is("cells", x.ofHole(0, false, 0, 0), 2);
        Due.is("cells", x.ofHole(0, true, 1, 0), 1);
        Due.is("first cell", x.ofHole(0, true, 1, 1), 34);
        Due.is("holes in the part", x.ofPart(0, true, 0, 2), 2);
        Due.is("tree by four", x.tree(0, false), "[()]");
        Due.is("tree by eight", x.tree(0, true), "[()()]");
        Due.drawn(x, ".#/#.#/.#");
        Due.is("no hole with black by four", x.ofPicture(1, 5), 0);
        Due.is("parts by four", x.ofPicture(1, 3), 4);
        Due.is("a hole with black by eight", x.ofPicture(1, 6), 1);
        x.fillHoles(1, false);
        Due.is("nothing to fill", Due.shown(x, 2), ".#/#.#/.#");
        x.fillHoles(1, true);
        Due.is("filled", Due.shown(x, 3), ".#/###/.#");
        Due.is("a line at the edge", x.part(1, false, 1), 4);
        Due.is("part by four", Due.shown(x, 4), "/#");
        Due.is("width by eight", x.ofPart(1, true, 0, 6), 3);
        Due.is("height by four", x.ofPart(1, false, 2, 5), 1);
    }

    private static void numbers() {
        Runpicture x = new Runpicture();
        Due.drawn(x, "....#/..#.#/#.#.#/#####//#.#/.#");
        Due.is("one part", x.ofPart(0, false, 0, 0), 11);
        Due.is("its first cell", x.ofPart(0, false, 0, 1), 4);
        Due.is("lines", x.ofPart(0, false, 0, 5), 4);
        Due.is("columns", x.ofPart(0, false, 0, 6), 5);
        Due.is("parts by four", x.partOf(0, false, 6, 1), 3);
        Due.is("parts by eight", x.partOf(0, true, 6, 1), 1);
        x.blank();
        for (int line = 0; line < 12; line++) {
            x.draw(1, line, line % 2 == 0 ? 21845 : 43690);
        }
        Due.is("most parts by four", x.ofPicture(1, 3), 96);
        Due.is("the last of them", x.ofPart(1, false, 95, 1), 191);
        Due.is("one by eight", x.ofPicture(1, 4), 1);
        Due.is("holes by eight", x.ofPicture(1, 6), 70);
        Due.is("the last hole", x.ofHole(1, true, 69, 1), 173);
    }

    private static void trees() {
        Runpicture x = new Runpicture();
        x.blank();
        Due.is("no parts", x.tree(0, true), "");
        Due.drawn(x, "#.#/.#/#.#");
        Due.is("by four", x.tree(1, false), "[][][][][]");
        Due.is("by eight", x.tree(1, true), "[]");
        Due.drawn(x, "#######.###/#.#.#.#.#.#/#######.###/#.....#/#.#.#.#/#.....#/#######");
        Due.is("several in each", x.tree(2, true), "[()()()([][])][()]");
        Due.is("parts in a hole", x.ofHole(2, true, 4, 3), 2);
        Due.is("parts in another", x.ofHole(2, true, 0, 3), 0);
    }

    private static void largest() {
        Runpicture x = new Runpicture();
        x.blank();
        Due.is("none", x.largest(0, true), -1);
        Due.drawn(x, "#.##.##/#.#..#");
        Due.is("the first of several", x.largest(1, false), 1);
        Due.drawn(x, "#.##/.#.#");
        Due.is("by four", x.largest(2, false), 1);
        Due.is("by eight", x.largest(2, true), 0);
    }

    private static void wrongOnes() {
        Runpicture x = new Runpicture();
        Due.drawn(x, CORNERS);
        for (boolean isEight : new boolean[] {false, true}) {
            int holes = isEight ? 2 : 1;
            for (int pic : new int[] {-1, 1, 8}) {
                Due.noIndex(x, "part", () -> x.part(pic, isEight, 0));
                Due.noIndex(x, "fillHoles", () -> x.fillHoles(pic, isEight));
                Due.noIndex(x, "partOf", () -> x.partOf(pic, isEight, 0, 0));
                Due.noIndex(x, "ofPart", () -> x.ofPart(pic, isEight, 0, 7));
                Due.noIndex(x, "ofHole", () -> x.ofHole(pic, isEight, 0, 4));
                Due.noIndex(x, "largest", () -> x.largest(pic, isEight));
                Due.noIndex(x, "tree", () -> x.tree(pic, isEight));
            }
            for (int k : new int[] {-1, 1, Integer.MAX_VALUE}) {
                Due.noIndex(x, "part", () -> x.part(0, isEight, k));
                Due.noIndex(x, "ofPart", () -> x.ofPart(0, isEight, k, 0));
                Due.noIndex(x, "ofPart, wrong what too", () -> x.ofPart(0, isEight, k, 7));
            }
            for (int k : new int[] {-1, holes, Integer.MAX_VALUE}) {
                Due.noIndex(x, "ofHole", () -> x.ofHole(0, isEight, k, 0));
                Due.noIndex(x, "ofHole, wrong what too", () -> x.ofHole(0, isEight, k, -1));
            }
            for (int[] at : new int[][] {{12, 0}, {-1, 0}, {0, 16}, {0, -1}}) {
                Due.noIndex(x, "partOf", () -> x.partOf(0, isEight, at[0], at[1]));
            }
            Due.noArgument(x, "ofPart", () -> x.ofPart(0, isEight, 0, 7));
            Due.noArgument(x, "ofPart", () -> x.ofPart(0, isEight, 0, -1));
            Due.noArgument(x, "ofHole", () -> x.ofHole(0, isEight, 0, 4));
            Due.noArgument(x, "ofHole", () -> x.ofHole(0, isEight, 0, -1));
        }
        Due.fill(x);
        Due.noState(x, "part", () -> x.part(0, true, 0));
        Due.noIndex(x, "no such part", () -> x.part(0, true, 1));
        Due.noState(x, "fillHoles", () -> x.fillHoles(0, true));
        Due.noIndex(x, "no such picture", () -> x.fillHoles(8, true));
    }
}
