/**
 * The edges of what the document tells in its part 5, and of promises 17, 18 and 38 to 44: nearest
 * cells, thinning, patterns, windows.
 */
public final class NearEdgesTest {
    public static void main(String[] args) {
        nearestWithoutBlackCells();
        nearestOfABlackCell();
        fromCornerToCorner();
        theFirstOfTheNearest();
        measures();
        theFirstOfTheFarthest();
        nothingToThin();
        whiteBeyondIsThinnedFrom();
        atLeastTwoNeighbours();
        theCircleGoesRound();
        asThatOneOfTheFourBegins();
        skeletonOfEmptyAndFull();
        patternAsLargeAsThePicture();
        patternAtTheEdges();
        faultsFromNoneToFifty();
        numberOfAPlace();
        patternWithoutBlackCells();
        windowsAtTheEdges();
        densestOfEmptyAndFull();
        theFirstOfTheDensest();
        Due.end();
    }

    private static Runpicture of(String lines) {
        Runpicture x = new Runpicture();
        Due.drawn(x, lines);
        return x;
    }

    private static void nearestWithoutBlackCells() {
        Runpicture x = of("");
        for (int measure = 0; measure <= 2; measure++) {
            for (int line : new int[] {0, 5, 11}) {
                for (int column : new int[] {0, 7, 15}) {
                    Due.is("nearest", x.nearest(0, measure, line, column), -1);
                    Due.is("nearestCell", x.nearestCell(0, measure, line, column), -1);
                }
            }
            Due.is("farthest", x.farthest(0, measure), -1);
        }
    }

    private static void nearestOfABlackCell() {
        Runpicture x = of("#");
        x.put(0, 11, 15, 15);
        for (int measure = 0; measure <= 2; measure++) {
            Due.is("of the first cell", x.nearest(0, measure, 0, 0), 0);
            Due.is("of the last cell", x.nearest(0, measure, 11, 15), 0);
            Due.is("itself", x.nearestCell(0, measure, 0, 0), 0);
            Due.is("itself", x.nearestCell(0, measure, 11, 15), 191);
            Due.is("beside", x.nearest(0, measure, 11, 14), 1);
        }
    }

    private static void fromCornerToCorner() {
        int[][] corners = {{0, 0}, {0, 15}, {11, 0}, {11, 15}};
        int[] due = {26, 15, 346};
        for (int[] at : corners) {
            Runpicture x = of("");
            x.put(0, at[0], at[1], at[1]);
            for (int measure = 0; measure <= 2; measure++) {
                Due.is("nearest", x.nearest(0, measure, 11 - at[0], 15 - at[1]), due[measure]);
                Due.is("its cell", x.nearestCell(0, measure, 11 - at[0], 15 - at[1]), 16 * at[0] + at[1]);
                int first = measure == 1 ? (at[1] == 0 ? 15 : 0) : 16 * (11 - at[0]) + 15 - at[1];
                Due.is("farthest", x.farthest(0, measure), first);
            }
        }
    }

    private static void theFirstOfTheNearest() {
        for (int measure = 0; measure <= 2; measure++) {
            Runpicture x = of("////.......#/......#.#/.......#");
            Due.is("above, of four", x.nearestCell(0, measure, 5, 7), 71);
            x.take(0, 4, 7, 7);
            Due.is("left, of three", x.nearestCell(0, measure, 5, 7), 86);
            x.take(0, 5, 6, 6);
            Due.is("right, of two", x.nearestCell(0, measure, 5, 7), 88);
            x.take(0, 5, 8, 8);
            Due.is("below", x.nearestCell(0, measure, 5, 7), 103);
        }
        Runpicture x = of("///....#/...../.#.....#/.......#");
        Due.is("the greater one is the same", x.nearestCell(0, 1, 5, 3), 52);
        x.put(0, 3, 1, 5);
        Due.is("the first in a line", x.nearestCell(0, 1, 5, 3), 49);
        Due.is("straight above by the sum", x.nearestCell(0, 0, 5, 3), 51);
    }

    private static void measures() {
        Runpicture x = of("/////.....#");
        int[][] due = {{7, 4, 25}, {7, 4, 25}};
        for (int measure = 0; measure <= 2; measure++) {
            Due.is("three lines, four columns", x.nearest(0, measure, 8, 9), due[0][measure]);
            Due.is("four lines, three columns", x.nearest(0, measure, 1, 2), due[1][measure]);
        }
        Runpicture both = of("......#/.....................");
        both.put(0, 4, 9, 9);
        Due.is("by the sum straight on", both.nearestCell(0, 0, 0, 11), 6);
        Due.is("by the greater one aslope", both.nearestCell(0, 1, 0, 11), 73);
        Due.is("by squares aslope", both.nearestCell(0, 2, 0, 11), 73);
        for (int measure : new int[] {-1, 3}) {
            Due.noArgument(x, "measure", () -> x.nearest(0, measure, 0, 0));
            Due.noArgument(x, "measure", () -> x.nearestCell(0, measure, 0, 0));
            Due.noArgument(x, "measure", () -> x.farthest(0, measure));
            Due.noIndex(x, "cell and measure", () -> x.nearest(0, measure, 12, 0));
            Due.noIndex(x, "cell and measure", () -> x.nearestCell(0, measure, 0, 16));
        }
        for (int[] at : new int[][] {{-1, 0}, {0, -1}, {12, 0}, {0, 16}}) {
            Due.noIndex(x, "cell", () -> x.nearest(0, 0, at[0], at[1]));
            Due.noIndex(x, "cell", () -> x.nearestCell(0, 0, at[0], at[1]));
        }
    }

    private static void theFirstOfTheFarthest() {
        Runpicture x = of("");
        x.not(0);
        for (int measure = 0; measure <= 2; measure++) {
            Due.is("all black", x.farthest(1, measure), 0);
        }
        x.take(1, 11, 15, 15);
        for (int measure = 0; measure <= 2; measure++) {
            Due.is("all but the last", x.farthest(1, measure), 191);
        }
        x.take(1, 3, 3, 3);
        for (int measure = 0; measure <= 2; measure++) {
            Due.is("the first of two", x.farthest(1, measure), 51);
        }
    }

    private static void nothingToThin() {
        for (String lines : new String[] {"", "#", "##", "#/#", "#/.#", "/.#####", "/.#/.#/.#", "/.###/.#.#/.###"}) {
            Runpicture x = of(lines);
            x.thin(0);
            x.skeleton(0);
            boolean isRing = lines.startsWith("/.###/");
            Due.is("thin " + lines, Due.shown(x, 1), isRing ? "/..#/.#.#/..#" : lines);
            Due.is("skeleton " + lines, Due.shown(x, 2), isRing ? "/..#/.#.#/..#" : lines);
        }
    }

    private static void whiteBeyondIsThinnedFrom() {
        Runpicture x = of("");
        x.not(0);
        Due.is("thin", x.thin(1), 2);
        Due.is("cells", x.ofPicture(2, 0), 140);
        Due.is("from all sides", x.sum(2, 1, 1, 10, 14), 140);
        Runpicture corner = of("##/##");
        corner.thin(0);
        Due.is("in a corner", Due.shown(corner, 1), "/##");
        corner.mirror(0, 2);
        corner.thin(2);
        Due.is("in the last corner", Due.shown(corner, 3), "///////////..............##");
        Due.is("there", corner.runs(3, 11), "14-15");
    }

    /** A black cell with one neighbour is an end, and stays; with two it goes, if it is simple. */
    private static void atLeastTwoNeighbours() {
        Runpicture ends = of("//..###");
        ends.thin(0);
        Due.is("ends stay", Due.shown(ends, 1), "//..###");
        Runpicture knee = of("//..##/..#");
        knee.thin(0);
        Due.is("a knee goes", Due.shown(knee, 1), "//...#/..#");
        Runpicture wide = of("//..##/..##");
        wide.thin(0);
        Due.is("till ends are left", Due.shown(wide, 1), "///..##");
    }

    /** The side below is followed by the cells right below and right. */
    private static void theCircleGoesRound() {
        Runpicture x = of("##/.#");
        x.thin(0);
        Due.is("right below", Due.shown(x, 1), ".#/.#");
        Runpicture y = of(".#/##");
        y.thin(0);
        Due.is("right", Due.shown(y, 1), "/##");
        Runpicture z = of("//..#/..##/...#");
        z.thin(0);
        Due.is("a step", Due.shown(z, 1), "///..#/...#");
        Runpicture open = of("///...#/...###/...#");
        open.thin(0);
        Due.is("right above is not next to below", Due.shown(open, 1), "////...###");
        Runpicture both = of("//.#.#/..#/.#.#");
        both.thin(0);
        Due.is("a crossing stays", Due.shown(both, 1), "//.#.#/..#/.#.#");
    }

    /** What lies open only when cells ahead of it have become white waits for its own side. */
    private static void asThatOneOfTheFourBegins() {
        Runpicture x = of("///...####/...####/...####/...####");
        x.thin(0);
        Due.is("one line and one column on each side", Due.shown(x, 1), "////....##/....##");
        Runpicture two = of("///...####/...####");
        two.thin(0);
        Due.is("of two lines one", Due.shown(two, 1), "////...####");
        Runpicture three = of("///...####/...####/...####");
        three.thin(0);
        Due.is("of three lines the one between", Due.shown(three, 1), "////...####");
    }

    private static void skeletonOfEmptyAndFull() {
        Runpicture x = of("");
        x.not(0);
        Due.is("skeleton", x.skeleton(1), 2);
        Due.is("of all black", x.ofPicture(2, 0), 6);
        Due.is("a line", x.runs(2, 6), "5-10");
        x.skeleton(0);
        Due.is("of white", x.ofPicture(3, 0), 0);
        x.thin(2);
        Due.is("that changes nothing", x.compare(2, 4, 0), 1);
        Due.dropTo(x, 2);
        x.take(1, 6, 6, 6);
        x.skeleton(1);
        Due.is("one part", x.ofPicture(2, 4), 1);
        Due.is("one hole", x.ofPicture(2, 6), 1);
        x.thin(2);
        Due.is("that changes nothing", x.compare(2, 3, 0), 1);
    }

    private static void patternAsLargeAsThePicture() {
        Runpicture x = of("#");
        x.put(0, 11, 15, 15);
        Due.is("its box is all", x.places(0, 0, 0), 1);
        Due.is("at the first cell", x.placeAt(0, 0, 0, 0), 0);
        x.blank();
        Due.is("two faults in white", x.places(1, 0, 2), 1);
        Due.is("not with one", x.places(1, 0, 1), 0);
        x.not(1);
        Due.is("all black in all black", x.places(2, 2, 0), 1);
        Due.is("all black but one", x.places(0, 2, 50), 0);
        x.take(2, 3, 3, 3);
        Due.is("one fault", x.places(2, 2, 0), 1);
    }

    private static void patternAtTheEdges() {
        Runpicture x = of("");
        x.not(0);
        Due.drawn(x, "/..##");
        Due.is("two columns", x.places(1, 2, 0), 12 * 15);
        Due.is("the last place", x.placeAt(1, 2, 0, 179), 190);
        Due.is("the last of a line", x.placeAt(1, 2, 0, 14), 14);
        Due.is("then the next line", x.placeAt(1, 2, 0, 15), 16);
        Due.drawn(x, "/////.#/.#");
        Due.is("two lines", x.places(1, 3, 0), 11 * 16);
        Due.is("the last place", x.placeAt(1, 3, 0, 175), 175);
        x.blank();
        x.draw(4, 7, 65535);
        Due.is("a line", x.places(1, 4, 0), 12);
        Due.is("the last place", x.placeAt(1, 4, 0, 11), 176);
        Due.drawn(x, "#/".repeat(12));
        Due.is("a column", x.places(1, 5, 0), 16);
        Due.is("the last place", x.placeAt(1, 5, 0, 15), 15);
        Due.drawn(x, "#");
        x.put(6, 11, 15, 15);
        Due.drawn(x, ".....#");
        Due.is("a cell in two", x.places(6, 7, 0), 2);
        Due.is("at the last cell", x.placeAt(6, 7, 0, 1), 191);
    }

    private static void faultsFromNoneToFifty() {
        Runpicture x = of("");
        Due.drawn(x, "##########/".repeat(5));
        Due.is("fifty cells with fifty faults", x.places(0, 1, 50), 8 * 7);
        Due.is("not with one less", x.places(0, 1, 49), 0);
        Due.is("the first with fifty", x.placeAt(0, 1, 50, 0), 0);
        Due.is("the last with fifty", x.placeAt(0, 1, 50, 55), 7 * 16 + 6);
        Due.is("none with one less", x.placeAt(0, 1, 49, 0), -1);
        x.put(1, 0, 10, 10);
        Due.is("a white cell more in each other line", x.places(0, 1, 50), 0);
        Due.is("fits itself", x.places(1, 1, 0), 1);
        Due.noArgument(x, "one more", () -> x.places(1, 1, 51));
        Due.noArgument(x, "below none", () -> x.places(1, 1, -1));
        Due.noArgument(x, "one more", () -> x.placeAt(1, 1, 51, 0));
        Due.noArgument(x, "below none", () -> x.placeAt(1, 1, -1, 0));
        Due.drawn(x, "#.#");
        Due.drawn(x, "###");
        Due.is("white cells of the box count", x.places(3, 2, 0), 0);
        Due.is("as a fault", x.placeAt(3, 2, 1, 0), 0);
    }

    private static void numberOfAPlace() {
        Runpicture x = of("#.#.#");
        Due.drawn(x, "#");
        Due.is("the first", x.placeAt(0, 1, 0, 0), 0);
        Due.is("the last", x.placeAt(0, 1, 0, 2), 4);
        Due.is("behind the last", x.placeAt(0, 1, 0, 3), -1);
        Due.is("far behind", x.placeAt(0, 1, 0, Integer.MAX_VALUE), -1);
        Due.noArgument(x, "ahead of the first", () -> x.placeAt(0, 1, 0, -1));
        x.blank();
        Due.is("none at all", x.placeAt(2, 1, 0, 0), -1);
    }

    private static void patternWithoutBlackCells() {
        Runpicture x = of("#");
        x.blank();
        Due.noState(x, "places", () -> x.places(0, 1, 0));
        Due.noState(x, "places", () -> x.places(1, 1, 50));
        Due.noState(x, "placeAt", () -> x.placeAt(0, 1, 0, 0));
        Due.noArgument(x, "and faults", () -> x.places(0, 1, 51));
        Due.noArgument(x, "and k", () -> x.placeAt(0, 1, 0, -1));
        Due.noIndex(x, "and no picture", () -> x.places(2, 1, 51));
        Due.noIndex(x, "no pattern", () -> x.places(0, 2, 51));
        Due.noIndex(x, "and no picture", () -> x.placeAt(-1, 1, 51, -1));
        Due.noIndex(x, "no pattern", () -> x.placeAt(0, -1, 51, -1));
        Due.is("the other way", x.places(1, 0, 0), 0);
        x.put(1, 11, 15, 15);
        Due.is("one black cell is enough", x.places(0, 1, 0), 1);
    }

    private static void windowsAtTheEdges() {
        Runpicture x = of("#..............#");
        x.draw(0, 11, 32769);
        Due.is("all", x.sum(0, 0, 0, 11, 15), 4);
        for (int[] at : new int[][] {{0, 0}, {0, 15}, {11, 0}, {11, 15}}) {
            Due.is("a corner", x.sum(0, at[0], at[1], at[0], at[1]), 1);
        }
        Due.is("all but the edges", x.sum(0, 1, 1, 10, 14), 0);
        Due.is("the first line", x.sum(0, 0, 0, 0, 15), 2);
        Due.is("the last line", x.sum(0, 11, 0, 11, 15), 2);
        Due.is("the first column", x.sum(0, 0, 0, 11, 0), 2);
        Due.is("the last column", x.sum(0, 0, 15, 11, 15), 2);
        int[][] wrong = {
            {-1, 0, 11, 15}, {12, 0, 12, 15}, {0, 0, 12, 15}, {6, 0, 5, 15},
            {0, -1, 11, 15}, {0, 16, 11, 16}, {0, 0, 11, 16}, {0, 9, 11, 8}
        };
        for (int[] row : wrong) {
            Due.noArgument(x, "window", () -> x.sum(0, row[0], row[1], row[2], row[3]));
            Due.noIndex(x, "window and picture", () -> x.sum(1, row[0], row[1], row[2], row[3]));
        }
    }

    private static void densestOfEmptyAndFull() {
        Runpicture x = of("");
        x.not(0);
        for (int pic = 0; pic < 2; pic++) {
            Due.is("a cell", x.densest(pic, 1, 1), 0);
            Due.is("all", x.densest(pic, 12, 16), 0);
            Due.is("a line", x.densest(pic, 1, 16), 0);
            Due.is("a column", x.densest(pic, 12, 1), 0);
        }
        for (int[] size : new int[][] {{0, 1}, {13, 1}, {1, 0}, {1, 17}}) {
            Due.noArgument(x, "size", () -> x.densest(0, size[0], size[1]));
            Due.noIndex(x, "size and picture", () -> x.densest(2, size[0], size[1]));
        }
    }

    private static void theFirstOfTheDensest() {
        Runpicture x = of("");
        x.put(0, 11, 15, 15);
        Due.is("a cell", x.densest(0, 1, 1), 191);
        Due.is("two by two", x.densest(0, 2, 2), 174);
        Due.is("eleven lines", x.densest(0, 11, 16), 16);
        Due.is("fifteen columns", x.densest(0, 12, 15), 1);
        x.put(0, 0, 0, 0);
        Due.is("the first of two", x.densest(0, 1, 1), 0);
        Due.is("the first of two", x.densest(0, 2, 2), 0);
        x.put(0, 10, 14, 14);
        Due.is("the one with more", x.densest(0, 2, 2), 174);
        x.put(0, 5, 5, 5);
        x.put(0, 6, 6, 6);
        Due.is("the first of two with as many", x.densest(0, 2, 2), 85);
    }
}
