/** Promises 38 to 44: nearest cells, places of a pattern, windows. */
public final class SearchTest {
    public static void main(String[] args) {
        nearest();
        farthest();
        places();
        sums();
        densest();
        wrongOnes();
        Due.end();
    }

    private static void nearest() {
        Runpicture x = new Runpicture();
        x.blank();
        Due.is("none", x.nearest(0, 0, 3, 3), -1);
        Due.is("none", x.nearestCell(0, 2, 3, 3), -1);
        Due.drawn(x, "..#/////#....#");
        int[][] due = {
            {0, 0, 2, 2}, {1, 0, 2, 2}, {2, 0, 4, 2}, {0, 4, 3, 85}, {1, 4, 2, 85}, {2, 4, 5, 85}
        };
        for (int[] row : due) {
            int line = row[1];
            int column = line == 0 ? 0 : 3;
            Due.is("nearest " + row[0], x.nearest(1, row[0], line, column), row[2]);
            Due.is("nearestCell " + row[0], x.nearestCell(1, row[0], line, column), row[3]);
        }
        Due.is("black itself", x.nearest(1, 2, 5, 5), 0);
        Due.is("black itself", x.nearestCell(1, 2, 5, 5), 85);
        Due.is("far", x.nearest(1, 2, 11, 15), 136);
        Due.is("far", x.nearest(1, 0, 11, 15), 16);
        Due.is("far", x.nearest(1, 1, 11, 15), 10);
        Due.drawn(x, "/.#.#/..#");
        Due.is("the first of several", x.nearestCell(2, 0, 1, 2), 17);
        Due.drawn(x, "..#/#");
        Due.is("sum", x.nearestCell(3, 0, 1, 2), 2);
        Due.drawn(x, "/////.......#.#");
        Due.is("the first, not the fewest columns", x.nearestCell(4, 1, 8, 9), 87);
        Due.is("its measure", x.nearest(4, 1, 8, 9), 3);
        Due.is("by squares", x.nearestCell(4, 2, 8, 9), 89);
    }

    private static void farthest() {
        Runpicture x = new Runpicture();
        x.blank();
        for (int measure = 0; measure <= 2; measure++) {
            Due.is("none", x.farthest(0, measure), -1);
        }
        x.not(0);
        Due.is("all black", x.farthest(1, 0), 0);
        Due.drawn(x, "///.....#");
        Due.is("sum", x.farthest(2, 0), 191);
        Due.is("greater one", x.farthest(2, 1), 15);
        Due.is("squares", x.farthest(2, 2), 191);
        Due.drawn(x, "#");
        Due.is("the first of several", x.farthest(3, 1), 15);
    }

    private static void places() {
        Runpicture x = new Runpicture();
        Due.drawn(x, "##.##/#..#.///..##/..#");
        Due.drawn(x, "/////.......##/.......#");
        Due.is("places", x.places(0, 1, 0), 3);
        int[] at = {0, 3, 66, -1};
        for (int k = 0; k < at.length; k++) {
            Due.is("placeAt " + k, x.placeAt(0, 1, 0, k), at[k]);
        }
        Due.is("k far away", x.placeAt(0, 1, 0, Integer.MAX_VALUE), -1);
        Due.is("in itself", x.placeAt(1, 1, 0, 0), 87);
        Due.is("with all faults", x.places(0, 1, 4), 11 * 15);
        Due.is("with one fault", x.placeAt(0, 1, 1, 1), 3);
        x.blank();
        x.not(2);
        Due.is("all of it", x.places(3, 3, 0), 1);
        Due.is("too many faults", x.places(0, 3, 50), 0);
        Due.is("white cells count, too", x.places(3, 1, 0), 0);
        Due.is("just one fault", x.places(3, 1, 1), 11 * 15);
        Due.drawn(x, "#");
        Due.is("one cell in white", x.places(2, 4, 0), 0);
        Due.is("one cell, one fault", x.places(2, 4, 1), 192);
        Due.is("the last place", x.placeAt(2, 4, 1, 191), 191);
        Due.is("behind it", x.placeAt(2, 4, 1, 192), -1);
    }

    private static void sums() {
        Runpicture x = new Runpicture();
        Due.drawn(x, "##/#/...#///////////");
        x.draw(0, 11, 65535);
        Due.is("all", x.sum(0, 0, 0, 11, 15), 20);
        Due.is("a cell", x.sum(0, 0, 1, 0, 1), 1);
        Due.is("a window", x.sum(0, 1, 0, 2, 2), 1);
        Due.is("a window", x.sum(0, 0, 1, 2, 3), 2);
        Due.is("at the end", x.sum(0, 11, 14, 11, 15), 2);
        Due.is("a white cell", x.sum(0, 5, 5, 5, 5), 0);
    }

    private static void densest() {
        Runpicture x = new Runpicture();
        x.blank();
        Due.is("white", x.densest(0, 3, 3), 0);
        Due.drawn(x, "#..##/...#/");
        Due.is("a cell", x.densest(1, 1, 1), 0);
        Due.is("two columns", x.densest(1, 1, 2), 3);
        Due.is("a square", x.densest(1, 2, 2), 3);
        Due.is("all", x.densest(1, 12, 16), 0);
        x.put(0, 11, 15, 15);
        Due.is("the last cell", x.densest(0, 1, 1), 191);
        Due.is("all in the picture", x.densest(0, 3, 4), 9 * 16 + 12);
        Due.is("all lines", x.densest(0, 12, 1), 15);
        Due.is("all columns", x.densest(0, 1, 16), 176);
    }

    private static void wrongOnes() {
        Runpicture x = new Runpicture();
        Due.drawn(x, "#");
        x.blank();
        for (int pic : new int[] {-1, 2, Integer.MIN_VALUE}) {
            Due.noIndex(x, "nearest", () -> x.nearest(pic, 3, 0, 0));
            Due.noIndex(x, "nearestCell", () -> x.nearestCell(pic, 3, 0, 0));
            Due.noIndex(x, "farthest", () -> x.farthest(pic, 3));
            Due.noIndex(x, "places", () -> x.places(pic, 0, 51));
            Due.noIndex(x, "places", () -> x.places(0, pic, 51));
            Due.noIndex(x, "placeAt", () -> x.placeAt(pic, 0, 51, 0));
            Due.noIndex(x, "placeAt", () -> x.placeAt(0, pic, 0, -1));
            Due.noIndex(x, "sum", () -> x.sum(pic, 12, 0, 0, 0));
            Due.noIndex(x, "densest", () -> x.densest(pic, 0, 0));
        }
        for (int[] at : new int[][] {{12, 0}, {-1, 0}, {0, 16}, {0, -1}}) {
            Due.noIndex(x, "nearest", () -> x.nearest(0, 3, at[0], at[1]));
            Due.noIndex(x, "nearestCell", () -> x.nearestCell(0, 3, at[0], at[1]));
        }
        for (int measure : new int[] {-1, 3}) {
            Due.noArgument(x, "nearest", () -> x.nearest(0, measure, 0, 0));
            Due.noArgument(x, "nearest in white", () -> x.nearest(1, measure, 0, 0));
            Due.noArgument(x, "nearestCell", () -> x.nearestCell(0, measure, 0, 0));
            Due.noArgument(x, "farthest", () -> x.farthest(0, measure));
        }
        for (int faults : new int[] {-1, 51}) {
            Due.noArgument(x, "places", () -> x.places(0, 0, faults));
            Due.noArgument(x, "places, white too", () -> x.places(0, 1, faults));
            Due.noArgument(x, "placeAt", () -> x.placeAt(0, 0, faults, 0));
        }
        Due.noArgument(x, "placeAt, white too", () -> x.placeAt(0, 1, 0, -1));
        Due.noState(x, "places of white", () -> x.places(0, 1, 50));
        Due.noState(x, "placeAt of white", () -> x.placeAt(0, 1, 0, 0));
        int[][] windows = {
            {-1, 0, 0, 0}, {12, 0, 12, 0}, {3, 0, 2, 0}, {0, 0, 12, 0}, {0, -1, 0, 0}, {0, 16, 0, 16}, {0, 5, 0, 4}, {0, 0, 0, 16}
        };
        for (int[] w : windows) {
            Due.noArgument(x, "sum", () -> x.sum(0, w[0], w[1], w[2], w[3]));
        }
        for (int[] size : new int[][] {{0, 1}, {13, 1}, {1, 0}, {1, 17}, {-1, -1}, {Integer.MAX_VALUE, 1}}) {
            Due.noArgument(x, "densest", () -> x.densest(0, size[0], size[1]));
        }
    }
}
