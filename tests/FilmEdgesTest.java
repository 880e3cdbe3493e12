/**
 * The edges of what the document tells in the second half of its part 6, and of promises 23 to 25
 * and 47 to 49: frames, changes, labels.
 */
public final class FilmEdgesTest {
    public static void main(String[] args) {
        emptyFilm();
        atMostEightFrames();
        asTheyWereWhenTheyWereShot();
        filmWithoutPictures();
        firstChangeIsFromWhite();
        changeThatChangesNothing();
        mostChangedFrame();
        labelsStartWithOne();
        labelsBehindAWhiteFrame();
        labelsBehindAnEmptiedFilm();
        mostCellsThenSmallestNumbers();
        noLabelTwice();
        asManyLabelsAsThereCanBe();
        partsOfBothFramesByEight();
        cellsOfAFrame();
        framesThatThereAreNot();
        Due.end();
    }

    private static Runpicture of(String lines) {
        Runpicture x = new Runpicture();
        Due.drawn(x, lines);
        return x;
    }

    private static void tellsFilm(Runpicture x, int... due) {
        for (int what = 0; what < due.length; what++) {
            Due.is("ofFilm " + what, x.ofFilm(what), due[what]);
        }
    }

    private static void emptyFilm() {
        Runpicture x = of("#");
        tellsFilm(x, 0, 0, 0, 0, -1);
        Due.is("cut", x.cut(), 0);
        tellsFilm(x, 0, 0, 0, 0, -1);
        Due.noArgument(x, "ofFilm", () -> x.ofFilm(-1));
        Due.noArgument(x, "ofFilm", () -> x.ofFilm(5));
        Due.noIndex(x, "labels", () -> x.labels(0));
        Due.noIndex(x, "label", () -> x.label(0, 0, 0));
        Due.noIndex(x, "frame", () -> x.frame(0));
    }

    private static void atMostEightFrames() {
        Runpicture x = of("#");
        for (int k = 0; k < 8; k++) {
            x.put(0, k, 5, 5);
            Due.is("shoot", x.shoot(0), k);
        }
        tellsFilm(x, 8, 9, 9, 2, 0);
        String last = x.labels(7);
        x.put(0, 11, 15, 15);
        Due.noState(x, "shoot with 8 frames", () -> x.shoot(0));
        tellsFilm(x, 8, 9, 9, 2, 0);
        Due.is("the last as before", x.labels(7), last);
        Due.noIndex(x, "shoot none, with 8 frames", () -> x.shoot(1));
        Due.is("the last frame", x.frame(7), 1);
        Due.is("is as it was", x.ofPicture(1, 0), 9);
        Due.is("cut", x.cut(), 8);
        for (int k = 0; k < 8; k++) {
            Due.is("shoot again", x.shoot(0), k);
        }
        Due.noState(x, "shoot with 8 frames", () -> x.shoot(0));
    }

    private static void asTheyWereWhenTheyWereShot() {
        Runpicture x = of("##/#");
        x.shoot(0);
        x.draw(0, 0, 65535);
        x.frame(0);
        Due.is("the picture changed", Due.shown(x, 1), "##/#");
        x.draw(1, 5, 65535);
        x.frame(0);
        Due.is("the picture of the frame changed", Due.shown(x, 2), "##/#");
        Due.dropTo(x, 0);
        x.blank();
        x.frame(0);
        Due.is("the picture is another one", Due.shown(x, 1), "##/#");
        Due.is("label", x.label(0, 0, 1), 1);
        Due.is("label", x.label(0, 5, 5), 0);
    }

    private static void filmWithoutPictures() {
        Runpicture x = of("#.#");
        x.shoot(0);
        x.drop();
        tellsFilm(x, 1, 2, 2, 2, 0);
        Due.is("labels", x.labels(0), "1 2");
        Due.noIndex(x, "shoot without pictures", () -> x.shoot(0));
        Due.is("frame", x.frame(0), 0);
        Due.is("a picture again", Due.shown(x, 0), "#.#");
        Due.fill(x);
        Due.noState(x, "frame in a full house", () -> x.frame(0));
        Due.noIndex(x, "no frame, in a full house", () -> x.frame(1));
        Due.is("shoot in a full house", x.shoot(7), 1);
    }

    private static void firstChangeIsFromWhite() {
        Runpicture x = of("##.#/#");
        x.shoot(0);
        tellsFilm(x, 1, 3, 4, 2, 0);
        x.not(0);
        x.shoot(1);
        tellsFilm(x, 2, 15, 196, 3, 1);
        x.cut();
        x.shoot(1);
        tellsFilm(x, 1, 13, 188, 1, 0);
    }

    private static void changeThatChangesNothing() {
        Runpicture x = of("");
        x.shoot(0);
        tellsFilm(x, 1, 0, 0, 0, 0);
        x.shoot(0);
        tellsFilm(x, 2, 0, 0, 0, 0);
        x.not(0);
        x.shoot(1);
        x.shoot(1);
        tellsFilm(x, 4, 12, 192, 1, 2);
        x.shoot(0);
        tellsFilm(x, 5, 24, 384, 1, 2);
    }

    private static void mostChangedFrame() {
        Runpicture x = of("");
        Due.drawn(x, "##");
        Due.drawn(x, "##/###");
        x.shoot(1);
        Due.is("the first", x.ofFilm(4), 0);
        x.shoot(0);
        Due.is("as many: the first", x.ofFilm(4), 0);
        x.shoot(2);
        Due.is("more", x.ofFilm(4), 2);
        x.shoot(0);
        Due.is("as many: the first of them", x.ofFilm(4), 2);
    }

    private static void labelsStartWithOne() {
        Runpicture x = of("#.#.#/..#");
        x.shoot(0);
        Due.is("by their numbers", x.labels(0), "1 2 3");
        Due.is("of a cell", x.label(0, 1, 2), 2);
        Due.is("the greatest", x.ofFilm(3), 3);
        Runpicture slope = of("#/.#/..#");
        slope.shoot(0);
        Due.is("parts by eight", slope.labels(0), "1");
        Due.is("one label", slope.label(0, 2, 2), 1);
    }

    private static void labelsBehindAWhiteFrame() {
        Runpicture x = of("#.#");
        x.blank();
        x.shoot(0);
        x.shoot(1);
        Due.is("without any", x.labels(1), "");
        Due.is("the greatest stays", x.ofFilm(3), 2);
        x.shoot(0);
        Due.is("new ones", x.labels(2), "3 4");
        Due.is("the greatest", x.ofFilm(3), 4);
        Runpicture white = of("");
        white.shoot(0);
        Due.is("without any", white.labels(0), "");
        Due.is("the greatest of none", white.ofFilm(3), 0);
        white.put(0, 0, 0, 0);
        white.shoot(0);
        Due.is("the first label behind white", white.labels(1), "1");
    }

    private static void labelsBehindAnEmptiedFilm() {
        Runpicture x = of("#.#.#");
        x.shoot(0);
        x.shoot(0);
        x.mirror(0, 0);
        x.shoot(1);
        Due.is("new ones", x.labels(2), "4 5 6");
        Due.is("cut", x.cut(), 3);
        tellsFilm(x, 0, 0, 0, 0, -1);
        for (int k = 0; k < 3; k++) {
            int each = k;
            Due.noIndex(x, "labels", () -> x.labels(each));
            Due.noIndex(x, "label", () -> x.label(each, 0, 0));
            Due.noIndex(x, "frame", () -> x.frame(each));
        }
        x.shoot(1);
        Due.is("from 1 again", x.labels(0), "1 2 3");
        Due.is("the greatest", x.ofFilm(3), 3);
        Due.noIndex(x, "no second frame", () -> x.labels(1));
        Due.is("cut", x.cut(), 1);
        x.blank();
        x.shoot(2);
        Due.is("none behind a white one", x.ofFilm(3), 0);
        Due.is("cut", x.cut(), 1);
        Due.is("cut again", x.cut(), 0);
    }

    private static void mostCellsThenSmallestNumbers() {
        Runpicture x = of("###.##");
        Due.drawn(x, ".#####");
        x.shoot(0);
        x.shoot(1);
        Due.is("as many: the smaller number ahead", x.labels(1), "1");
        Due.is("the greatest", x.ofFilm(3), 2);
        x.shoot(0);
        Due.is("as many: the smaller number in this frame", x.labels(2), "1 3");
        x.cut();
        Due.drawn(x, "..####");
        x.shoot(0);
        x.shoot(2);
        Due.is("most cells in common", x.labels(1), "2");
        x.shoot(0);
        Due.is("most cells in common", x.labels(2), "3 2");
        x.cut();
        Due.drawn(x, "###.###");
        Due.drawn(x, "#.###.#");
        x.shoot(3);
        x.shoot(4);
        Due.is("each pair of one cell: this frame first, then ahead", x.labels(1), "1 2 3");
    }

    /** A part that came apart leaves its label to one, a part grown of two has one of them. */
    private static void noLabelTwice() {
        Runpicture x = of("#####");
        Due.drawn(x, "#.#.#");
        x.shoot(0);
        x.shoot(1);
        Due.is("the first of three", x.labels(1), "1 2 3");
        x.shoot(0);
        Due.is("one of three", x.labels(2), "1");
        x.shoot(1);
        Due.is("the others are gone", x.labels(3), "1 4 5");
        Due.is("the greatest", x.ofFilm(3), 5);
        x.cut();
        Due.drawn(x, "####.#");
        Due.drawn(x, "#.####");
        x.shoot(2);
        x.shoot(3);
        Due.is("the pair with most cells has it, the other one has no other", x.labels(1), "3 1");
    }

    private static void asManyLabelsAsThereCanBe() {
        Runpicture x = of("");
        for (int line = 0; line < 12; line += 2) {
            x.draw(0, line, 21845);
        }
        x.move(0, 1, 1);
        for (int k = 0; k < 8; k++) {
            x.shoot(k % 2);
            Due.is("the greatest", x.ofFilm(3), 48 * (k + 1));
            Due.is("the first", x.label(k, k % 2, k % 2), 48 * k + 1);
            Due.is("the last", x.label(k, 10 + k % 2, 14 + k % 2), 48 * (k + 1));
        }
        tellsFilm(x, 8, 48 + 7 * 96, 48 + 7 * 96, 384, 1);
        x.cut();
        for (int k = 0; k < 8; k++) {
            x.shoot(0);
            Due.is("all stay", x.ofFilm(3), 48);
        }
        Due.is("the last in the last", x.label(7, 10, 14), 48);
    }

    /** Numbers by four would not be the same, neither in the frame ahead nor in this one. */
    private static void partsOfBothFramesByEight() {
        Runpicture x = of("#....#/.#/..#..#");
        Due.is("by four", x.ofPicture(0, 3), 5);
        x.shoot(0);
        Due.is("by eight", x.labels(0), "1 2 3");
        Due.drawn(x, ".....#/.#/..#..#");
        x.shoot(1);
        Due.is("the first one has lost its first cell", x.labels(1), "2 1 3");
        x.shoot(0);
        Due.is("and has it again", x.labels(2), "1 2 3");
        Due.is("its last cell", x.label(2, 2, 2), 1);
        Due.is("the greatest", x.ofFilm(3), 3);
    }

    private static void cellsOfAFrame() {
        Runpicture x = of("###/#.#/###");
        x.put(0, 11, 15, 15);
        x.shoot(0);
        Due.is("the first cell", x.label(0, 0, 0), 1);
        Due.is("the last cell", x.label(0, 11, 15), 2);
        Due.is("a hole", x.label(0, 1, 1), 0);
        Due.is("outside", x.label(0, 0, 15), 0);
        for (int[] at : new int[][] {{-1, 0}, {0, -1}, {12, 15}, {11, 16}}) {
            Due.noIndex(x, "beyond", () -> x.label(0, at[0], at[1]));
        }
    }

    private static void framesThatThereAreNot() {
        Runpicture x = of("#");
        for (int k = 0; k <= 8; k++) {
            for (int wrong : new int[] {-1, k, Integer.MAX_VALUE}) {
                Due.noIndex(x, "label", () -> x.label(wrong, 0, 0));
                Due.noIndex(x, "labels", () -> x.labels(wrong));
                Due.noIndex(x, "frame", () -> x.frame(wrong));
            }
            if (k < 8) {
                Due.is("shoot", x.shoot(0), k);
                Due.is("the last", x.labels(k), "1");
            }
        }
    }
}
