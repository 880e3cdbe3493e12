/** Promises 1 to 7 and 26 to 29: pictures, their lines, and what is asked of them. */
public final class PicturesTest {
    public static void main(String[] args) {
        newObject();
        blankAndDrop();
        putAndTake();
        draw();
        textAndRuns();
        ofPicture();
        compare();
        Due.end();
    }

    private static void newObject() {
        Runpicture x = new Runpicture();
        for (int what = 0; what <= 4; what++) {
            Due.is("house " + what, x.house(what), 0);
        }
        Due.is("frames", x.ofFilm(0), 0);
        Due.is("cut", x.cut(), 0);
        Due.is("sound", x.isSound(), true);
        Due.noIndex(x, "text without pictures", () -> x.text(0, 0));
        Due.noIndex(x, "labels without frames", () -> x.labels(0));
    }

    private static void blankAndDrop() {
        Runpicture x = new Runpicture();
        Due.noState(x, "drop of none", () -> x.drop());
        for (int n = 0; n < 8; n++) {
            Due.is("blank", x.blank(), n);
        }
        Due.noState(x, "blank with 8", () -> x.blank());
        x.put(7, 3, 0, 15);
        Due.is("drop", x.drop(), 7);
        Due.is("blank again", x.blank(), 7);
        Due.is("it is white", x.ofPicture(7, 0), 0);
        for (int n = 7; n >= 0; n--) {
            Due.is("drop", x.drop(), n);
        }
        Due.noState(x, "drop of none", () -> x.drop());
    }

    private static void putAndTake() {
        Runpicture x = new Runpicture();
        x.blank();
        Due.is("put", x.put(0, 0, 0, 0), 1);
        Due.is("put", x.put(0, 0, 15, 15), 2);
        Due.is("put", x.put(0, 0, 7, 8), 3);
        Due.is("put beside", x.put(0, 0, 1, 2), 3);
        Due.is("cells", x.text(0, 0), "###....##......#");
        Due.is("put over", x.put(0, 0, 2, 14), 1);
        Due.is("put all", x.put(0, 11, 0, 15), 1);
        Due.is("take", x.take(0, 11, 4, 5), 2);
        Due.is("take white", x.take(0, 11, 4, 5), 2);
        Due.is("take the end", x.take(0, 11, 15, 15), 2);
        Due.is("cells", x.text(0, 11), "####..#########.");
        Due.is("take from the first", x.take(0, 11, 0, 7), 1);
        Due.is("take all", x.take(0, 11, 0, 15), 0);
        Due.is("other lines stay", x.text(0, 0), "################");
        int[][] lines = {{1, 0}, {-1, 0}, {0, 12}, {0, -1}, {1, 12}, {Integer.MIN_VALUE, 0}, {0, Integer.MAX_VALUE}};
        for (int[] at : lines) {
            Due.noIndex(x, "put", () -> x.put(at[0], at[1], 0, 0));
            Due.noIndex(x, "put, wrong columns too", () -> x.put(at[0], at[1], 3, 2));
            Due.noIndex(x, "take", () -> x.take(at[0], at[1], 0, 0));
            Due.noIndex(x, "take, wrong columns too", () -> x.take(at[0], at[1], 3, 2));
        }
        int[][] spans = {{-1, 3}, {16, 16}, {3, 2}, {0, 16}, {15, 14}, {Integer.MIN_VALUE, 0}, {0, Integer.MAX_VALUE}};
        for (int[] span : spans) {
            Due.noArgument(x, "put", () -> x.put(0, 0, span[0], span[1]));
            Due.noArgument(x, "take", () -> x.take(0, 0, span[0], span[1]));
        }
    }

    private static void draw() {
        Runpicture x = new Runpicture();
        x.blank();
        Due.is("draw", x.draw(0, 5, 0b1000000000000101), 3);
        Due.is("cells", x.text(0, 5), "#.#............#");
        Due.is("draw anew", x.draw(0, 5, 2), 1);
        Due.is("cells", x.text(0, 5), ".#..............");
        Due.is("draw all", x.draw(0, 5, 65535), 1);
        Due.is("draw none", x.draw(0, 5, 0), 0);
        Due.is("draw every other", x.draw(0, 11, 21845), 8);
        Due.noIndex(x, "picture", () -> x.draw(1, 0, 0));
        Due.noIndex(x, "line", () -> x.draw(0, 12, -1));
        Due.noIndex(x, "line", () -> x.draw(0, -1, 0));
        Due.noArgument(x, "bits", () -> x.draw(0, 0, 65536));
        Due.noArgument(x, "bits", () -> x.draw(0, 0, -1));
    }

    private static void textAndRuns() {
        Runpicture x = new Runpicture();
        x.blank();
        Due.is("white", x.text(0, 0), "................");
        Due.is("no runs", x.runs(0, 0), "");
        x.draw(0, 0, 65535);
        Due.is("one run", x.runs(0, 0), "0-15");
        x.draw(0, 1, 0b1100000000100111);
        Due.is("runs", x.runs(0, 1), "0-2 5-5 14-15");
        Due.is("text", x.text(0, 1), "###..#........##");
        for (int[] at : new int[][] {{1, 0}, {-1, 0}, {0, 12}, {0, -1}}) {
            Due.noIndex(x, "text", () -> x.text(at[0], at[1]));
            Due.noIndex(x, "runs", () -> x.runs(at[0], at[1]));
        }
    }

    private static void ofPicture() {
        Runpicture x = new Runpicture();
        x.blank();
        tells(x, 0, new int[] {0, 0, 0, 0, 0, 0, 0, -1, -1, -1, -1, 0, 0, 0});
        Due.drawn(x, "//..##.#/..#.#/...#");
        tells(x, 1, new int[] {6, 5, 3, 4, 1, 0, 1, 2, 2, 4, 5, 9, 1, 4});
        x.not(0);
        tells(x, 2, new int[] {192, 12, 12, 1, 1, 0, 0, 0, 0, 11, 15, 4, 0, 0});
        Due.drawn(x, "#.#/.#/#.#");
        tells(x, 3, new int[] {5, 5, 3, 5, 1, 0, 0, 0, 0, 2, 2, 12, 0, 4});
        Due.drawn(x, "###/#.#/###");
        tells(x, 4, new int[] {8, 4, 3, 1, 1, 1, 1, 0, 0, 2, 2, 4, 4, 0});
        Due.drawn(x, "///////////...............#");
        tells(x, 5, new int[] {1, 1, 1, 1, 1, 0, 0, 11, 15, 11, 15, 4, 0, 0});
        Due.noIndex(x, "picture", () -> x.ofPicture(6, 0));
        Due.noIndex(x, "picture", () -> x.ofPicture(-1, 14));
        Due.noArgument(x, "what", () -> x.ofPicture(0, 14));
        Due.noArgument(x, "what", () -> x.ofPicture(0, -1));
    }

    private static void tells(Runpicture x, int pic, int[] want) {
        for (int what = 0; what < want.length; what++) {
            Due.is("ofPicture " + pic + " " + what, x.ofPicture(pic, what), want[what]);
        }
    }

    private static void compare() {
        Runpicture x = new Runpicture();
        Due.drawn(x, "##/#");
        Due.drawn(x, "###/#");
        Due.drawn(x, "///#");
        int[][] due = {
            {0, 0, 1, 1, 0, 12}, {0, 1, 0, 1, 1, 11}, {1, 0, 0, 0, 1, 11},
            {0, 2, 0, 0, 4, 9}, {2, 0, 0, 0, 4, 9}, {2, 2, 1, 1, 0, 12}
        };
        for (int[] row : due) {
            for (int what = 0; what <= 3; what++) {
                Due.is("compare " + what, x.compare(row[0], row[1], what), row[2 + what]);
            }
        }
        Due.noIndex(x, "one", () -> x.compare(3, 0, 0));
        Due.noIndex(x, "other", () -> x.compare(0, 3, 4));
        Due.noIndex(x, "other", () -> x.compare(0, -1, 0));
        Due.noArgument(x, "what", () -> x.compare(0, 1, 4));
        Due.noArgument(x, "what", () -> x.compare(0, 1, -1));
    }
}
