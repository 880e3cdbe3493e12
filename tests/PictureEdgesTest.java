/**
 * The edges of what the document tells in its part 1, and of promises 1 to 12 and 26 to 29: each
 * function is named by the sentence that it looks at.
 */
public final class PictureEdgesTest {
    private static final int[][] CORNERS = {{0, 0}, {0, 15}, {11, 0}, {11, 15}};

    public static void main(String[] args) {
        numbersStartWithNought();
        noneIsMinusOne();
        twelveLinesAndSixteenColumns();
        atMostEightPictures();
        whatMakesAPictureTellsTheNextNumber();
        onlyTheLastOneCanBeDropped();
        asManyCellsAsThereAre();
        runsAreToldFromTheLeft();
        boxWithoutBlackCells();
        squaresBeyondThePicture();
        whiteBeyondThePicture();
        fromAndTo();
        bits();
        joinOfEmptyAndFull();
        moveToTheLastCellAndBeyond();
        scaleToTheEdgeAndBeyond();
        mirrorOfTheCorners();
        compareEmptyAndFull();
        Due.end();
    }

    private static void numbersStartWithNought() {
        Runpicture x = new Runpicture();
        Due.is("the first picture", x.blank(), 0);
        Due.drawn(x, "/.###/.#.#/.###");
        Due.is("the first part", x.partOf(1, true, 1, 1), 0);
        Due.is("the first hole", x.ofHole(1, true, 0, 1), 34);
        Due.is("the first outline", x.ofOutline(1, true, 0, 2), 12);
        Due.is("the first place", x.placeAt(1, 1, 0, 0), 17);
        Due.is("the first frame", x.shoot(1), 0);
        Due.is("the first cell", x.nearestCell(1, 0, 0, 0), 17);
    }

    private static void noneIsMinusOne() {
        Runpicture x = new Runpicture();
        x.blank();
        Due.is("no frame", x.ofFilm(4), -1);
        for (int what = 7; what <= 10; what++) {
            Due.is("no box " + what, x.ofPicture(0, what), -1);
        }
        Due.is("no largest part", x.largest(0, true), -1);
        Due.is("no part at a white cell", x.partOf(0, true, 0, 0), -1);
        Due.is("no nearest cell", x.nearestCell(0, 0, 0, 0), -1);
        Due.is("no measure", x.nearest(0, 0, 0, 0), -1);
        Due.is("no farthest cell", x.farthest(0, 0), -1);
        x.put(0, 0, 0, 0);
        Due.is("no hole round it", x.ofPart(0, true, 0, 3), -1);
        Due.is("no place", x.placeAt(0, 0, 0, 1), -1);
    }

    private static void twelveLinesAndSixteenColumns() {
        Runpicture x = new Runpicture();
        x.blank();
        for (int[] at : CORNERS) {
            Due.is("put in a corner", x.put(0, at[0], at[1], at[1]), at[1] == 0 ? 1 : 2);
        }
        Due.is("first line", x.text(0, 0), "#..............#");
        Due.is("last line", x.text(0, 11), "#..............#");
        Due.is("cells", x.ofPicture(0, 0), 4);
        for (int[] at : CORNERS) {
            Due.is("take from a corner", x.take(0, at[0], at[1], at[1]), at[1] == 0 ? 1 : 0);
        }
        Due.is("cells", x.ofPicture(0, 0), 0);
        for (int line : new int[] {-1, 12}) {
            Due.noIndex(x, "put", () -> x.put(0, line, 0, 0));
            Due.noIndex(x, "text", () -> x.text(0, line));
            Due.noIndex(x, "partOf", () -> x.partOf(0, true, line, 0));
        }
        for (int column : new int[] {-1, 16}) {
            Due.noArgument(x, "put", () -> x.put(0, 0, column, column));
            Due.noIndex(x, "partOf", () -> x.partOf(0, true, 0, column));
        }
    }

    /** What makes a picture; picture 0 and frame 0 are there. */
    private static final String[] MAKERS = {
        "blank", "copy 0", "join 0 1 2", "not 0", "mirror 0 0", "move 0 1 1", "scale 0 2", "grow 0 511",
        "shrink 0 511", "open 0 511", "close 0 511", "thin 0", "skeleton 0", "part 0 true 0", "fillHoles 0 true",
        "refill 0 true", "readBack 0 0", "frame 0"
    };

    private static void atMostEightPictures() {
        for (String maker : MAKERS) {
            Asked x = Asked.made().run(Asked.drawing(0, "####/#..#/#..#/####") + "shoot 0;");
            for (int n = 1; n < 8; n++) {
                x.is("blank", n);
            }
            Object before = x.call("digest");
            x.throwsOne(maker, "IllegalStateException");
            x.is("house 0", 8);
            x.is("digest", before);
            x.is("drop", 7);
            x.is(maker, 7);
            x.is("house 0", 8);
            x.throwsOne(maker, "IllegalStateException");
            x.is("text 0 1", "#..#............");
        }
    }

    private static void whatMakesAPictureTellsTheNextNumber() {
        for (String maker : MAKERS) {
            Asked x = Asked.made().run(Asked.drawing(0, "####/#..#/#..#/####") + "shoot 0; copy 0");
            for (int n = 2; n < 8; n++) {
                x.is(maker, n);
            }
            x.throwsOne(maker, "IllegalStateException");
        }
    }

    private static void onlyTheLastOneCanBeDropped() {
        Runpicture x = new Runpicture();
        Due.noState(x, "drop without pictures", () -> x.drop());
        Due.drawn(x, "#");
        Due.drawn(x, ".#");
        Due.drawn(x, "..#");
        Due.is("drop", x.drop(), 2);
        Due.is("the first stays", Due.shown(x, 0), "#");
        Due.is("the second stays", Due.shown(x, 1), ".#");
        Due.noIndex(x, "the last is gone", () -> x.text(2, 0));
        Due.is("its number comes again", x.blank(), 2);
        Due.is("and is white", x.ofPicture(2, 0), 0);
        Due.is("drop", x.drop(), 2);
        Due.is("drop", x.drop(), 1);
        Due.is("drop", x.drop(), 0);
        Due.noState(x, "drop without pictures", () -> x.drop());
        Due.is("the first number again", x.blank(), 0);
        Due.is("white again", x.ofPicture(0, 0), 0);
    }

    private static void asManyCellsAsThereAre() {
        Runpicture x = new Runpicture();
        x.blank();
        Due.is("put", x.put(0, 0, 15, 15), 1);
        Due.is("put", x.put(0, 1, 0, 0), 1);
        Due.is("from line to line is no run", x.ofPicture(0, 1), 2);
        Due.is("side by side", x.put(0, 0, 14, 14), 1);
        Due.is("one run", x.runs(0, 0), "14-15");
        Due.is("a cell between", x.put(0, 0, 12, 12), 2);
        Due.is("the gap", x.put(0, 0, 13, 13), 1);
        Due.is("one run", x.runs(0, 0), "12-15");
        Due.is("a line", x.put(0, 0, 0, 15), 1);
        Due.is("one run", x.runs(0, 0), "0-15");
        Due.is("without its first cell", x.take(0, 0, 0, 0), 1);
        Due.is("without its last cell", x.take(0, 0, 15, 15), 1);
        Due.is("one run", x.runs(0, 0), "1-14");
        Due.is("without one in it", x.take(0, 0, 7, 7), 2);
        Due.is("two runs", x.runs(0, 0), "1-6 8-14");
    }

    private static void runsAreToldFromTheLeft() {
        Runpicture x = new Runpicture();
        x.blank();
        Due.is("none", x.runs(0, 11), "");
        Due.is("most of a line", x.draw(0, 11, 21845), 8);
        Due.is("from the left", x.runs(0, 11), "0-0 2-2 4-4 6-6 8-8 10-10 12-12 14-14");
        Due.is("most of a line", x.draw(0, 11, 43690), 8);
        Due.is("from the left", x.runs(0, 11), "1-1 3-3 5-5 7-7 9-9 11-11 13-13 15-15");
        for (int line = 0; line < 12; line++) {
            x.draw(0, line, line % 2 == 0 ? 21845 : 43690);
        }
        Due.is("most of a picture", x.ofPicture(0, 1), 96);
        Due.is("lines with runs", x.ofPicture(0, 2), 12);
    }

    private static void boxWithoutBlackCells() {
        Runpicture x = new Runpicture();
        x.blank();
        for (int[] at : CORNERS) {
            x.put(0, at[0], at[1], at[1]);
            Due.is("first line", x.ofPicture(0, 7), at[0]);
            Due.is("first column", x.ofPicture(0, 8), at[1]);
            Due.is("last line", x.ofPicture(0, 9), at[0]);
            Due.is("last column", x.ofPicture(0, 10), at[1]);
            x.take(0, at[0], at[1], at[1]);
            Due.is("none again", x.ofPicture(0, 7) + x.ofPicture(0, 8) + x.ofPicture(0, 9) + x.ofPicture(0, 10), -4);
        }
        x.put(0, 0, 15, 15);
        x.put(0, 11, 0, 0);
        Due.is("all lines", x.ofPicture(0, 9) - x.ofPicture(0, 7), 11);
        Due.is("all columns", x.ofPicture(0, 10) - x.ofPicture(0, 8), 15);
    }

    private static void squaresBeyondThePicture() {
        Runpicture x = new Runpicture();
        x.blank();
        for (int[] at : CORNERS) {
            x.put(0, at[0], at[1], at[1]);
            squares(x, 4, 0, 0);
            int inside = at[1] == 0 ? 1 : 14;
            x.put(0, at[0] == 0 ? 1 : 10, inside, inside);
            squares(x, 6, 0, 1);
            x.put(0, at[0], inside, inside);
            squares(x, 5, 1, 0);
            x.put(0, at[0] == 0 ? 1 : 10, at[1], at[1]);
            squares(x, 4, 0, 0);
            x.draw(0, at[0], 0);
            x.draw(0, at[0] == 0 ? 1 : 10, 0);
            squares(x, 0, 0, 0);
        }
        for (int line = 0; line < 12; line++) {
            x.draw(0, line, 65535);
        }
        squares(x, 4, 0, 0);
        x.draw(0, 0, 65534);
        squares(x, 5, 1, 0);
        x.draw(0, 1, 65533);
        squares(x, 5, 3, 1);
    }

    private static void squares(Runpicture x, int one, int three, int diagonal) {
        Due.is("Q1", x.ofPicture(0, 11), one);
        Due.is("Q3", x.ofPicture(0, 12), three);
        Due.is("QD", x.ofPicture(0, 13), diagonal);
    }

    private static void whiteBeyondThePicture() {
        Runpicture x = new Runpicture();
        x.blank();
        x.not(0);
        x.move(1, 1, 1);
        Due.is("white comes in from above", x.text(2, 0), "................");
        Due.is("and from the left", x.text(2, 11), ".###############");
        x.move(1, -1, -1);
        Due.is("white comes in from below", x.text(3, 11), "................");
        Due.is("and from the right", x.text(3, 0), "###############.");
        x.thin(1);
        Due.is("thinned from beyond", x.ofPicture(4, 0), 140);
        Due.is("outlined along the edge", x.ofOutline(1, true, 0, 2), 56);
    }

    private static void fromAndTo() {
        Runpicture x = new Runpicture();
        x.blank();
        Due.is("the first cell", x.put(0, 5, 0, 0), 1);
        Due.is("the last cell", x.put(0, 5, 15, 15), 2);
        Due.noArgument(x, "from below 0", () -> x.put(0, 5, -1, 0));
        Due.noArgument(x, "from above 15", () -> x.put(0, 5, 16, 16));
        Due.noArgument(x, "to below from", () -> x.put(0, 5, 8, 7));
        Due.noArgument(x, "to above 15", () -> x.put(0, 5, 15, 16));
        Due.noArgument(x, "from below 0", () -> x.take(0, 5, -1, 0));
        Due.noArgument(x, "from above 15", () -> x.take(0, 5, 16, 16));
        Due.noArgument(x, "to below from", () -> x.take(0, 5, 1, 0));
        Due.noArgument(x, "to above 15", () -> x.take(0, 5, 0, 16));
        Due.is("as before", x.text(0, 5), "#..............#");
        Due.is("to as from", x.put(0, 5, 8, 8), 3);
        Due.is("all", x.put(0, 5, 0, 15), 1);
        Due.is("all white", x.take(0, 5, 0, 15), 0);
        Due.is("white as it is", x.take(0, 5, 0, 15), 0);
    }

    private static void bits() {
        Runpicture x = new Runpicture();
        x.blank();
        Due.is("the least digit", x.draw(0, 0, 1), 1);
        Due.is("is column 0", x.text(0, 0), "#...............");
        Due.is("the greatest digit", x.draw(0, 0, 32768), 1);
        Due.is("is column 15", x.text(0, 0), "...............#");
        Due.is("all digits", x.draw(0, 0, 65535), 1);
        Due.is("all black", x.text(0, 0), "################");
        Due.noArgument(x, "one more", () -> x.draw(0, 0, 65536));
        Due.noArgument(x, "one less than none", () -> x.draw(0, 0, -1));
        Due.is("no digits", x.draw(0, 0, 0), 0);
        Due.is("all white", x.text(0, 0), "................");
    }

    private static void joinOfEmptyAndFull() {
        Runpicture x = new Runpicture();
        x.blank();
        x.not(0);
        int[][] cells = {{0, 192, 192, 192}, {0, 0, 0, 192}, {0, 0, 192, 0}, {0, 192, 192, 0}};
        for (int how = 0; how <= 3; how++) {
            for (int pair = 0; pair < 4; pair++) {
                Due.is("join", x.join(pair / 2, pair % 2, how), 2);
                Due.is("cells " + how + " " + pair, x.ofPicture(2, 0), cells[how][pair]);
                x.drop();
            }
        }
        x.not(1);
        Due.is("not all is none", x.compare(2, 0, 0), 1);
    }

    private static void moveToTheLastCellAndBeyond() {
        Runpicture x = new Runpicture();
        x.blank();
        for (int[] at : CORNERS) {
            x.put(0, at[0], at[1], at[1]);
            int down = at[0] == 0 ? 1 : -1;
            int right = at[1] == 0 ? 1 : -1;
            int[][] moves = {{11, 15, 1}, {12, 0, 0}, {0, 16, 0}, {16, 16, 0}, {-1, 0, 0}, {0, -1, 0}, {-16, 0, 0}, {0, -16, 0}};
            for (int[] move : moves) {
                x.move(0, move[0] * down, move[1] * right);
                Due.is("cells left of " + move[0] + " " + move[1], x.ofPicture(1, 0), move[2]);
                x.drop();
            }
            x.move(0, 11 * down, 15 * right);
            Due.is("in the other corner", x.sum(1, 11 - at[0], 15 - at[1], 11 - at[0], 15 - at[1]), 1);
            x.drop();
            x.take(0, at[0], at[1], at[1]);
        }
        Due.noArgument(x, "down", () -> x.move(0, 17, 0));
        Due.noArgument(x, "up", () -> x.move(0, -17, 0));
        Due.noArgument(x, "right", () -> x.move(0, 0, 17));
        Due.noArgument(x, "left", () -> x.move(0, 0, -17));
    }

    private static void scaleToTheEdgeAndBeyond() {
        int[][] due = {
            {1, 11, 15, 1}, {2, 5, 7, 4}, {2, 6, 7, 0}, {2, 5, 8, 0}, {3, 3, 4, 9}, {3, 3, 5, 3}, {3, 4, 5, 0},
            {4, 2, 3, 16}, {4, 3, 3, 0}, {4, 2, 4, 0}, {4, 0, 0, 16}
        };
        Runpicture x = new Runpicture();
        x.blank();
        for (int[] row : due) {
            x.put(0, row[1], row[2], row[2]);
            x.scale(0, row[0]);
            String call = "scale by " + row[0] + " of " + row[1] + " " + row[2];
            Due.is(call, x.ofPicture(1, 0), row[3]);
            if (row[3] > 0) {
                Due.is(call + ", first line", x.ofPicture(1, 7), row[0] * row[1]);
                Due.is(call + ", first column", x.ofPicture(1, 8), row[0] * row[2]);
            }
            x.drop();
            x.draw(0, row[1], 0);
        }
        Due.noArgument(x, "scale by 0", () -> x.scale(0, 0));
        Due.noArgument(x, "scale by 5", () -> x.scale(0, 5));
    }

    private static void mirrorOfTheCorners() {
        Runpicture x = new Runpicture();
        x.blank();
        for (int[] at : CORNERS) {
            x.put(0, at[0], at[1], at[1]);
            int[][] due = {{at[0], 15 - at[1]}, {11 - at[0], at[1]}, {11 - at[0], 15 - at[1]}};
            for (int how = 0; how <= 2; how++) {
                x.mirror(0, how);
                Due.is("mirror " + how + " line", x.ofPicture(1, 7), due[how][0]);
                Due.is("mirror " + how + " column", x.ofPicture(1, 8), due[how][1]);
                x.drop();
            }
            x.draw(0, at[0], 0);
        }
        Due.noArgument(x, "below", () -> x.mirror(0, -1));
        Due.noArgument(x, "above", () -> x.mirror(0, 3));
    }

    private static void compareEmptyAndFull() {
        Runpicture x = new Runpicture();
        x.blank();
        x.not(0);
        int[][] due = {{0, 0, 1, 1, 0, 12}, {0, 1, 0, 1, 192, 0}, {1, 0, 0, 0, 192, 0}, {1, 1, 1, 1, 0, 12}};
        for (int[] row : due) {
            for (int what = 0; what <= 3; what++) {
                Due.is("compare " + row[0] + row[1] + what, x.compare(row[0], row[1], what), row[2 + what]);
            }
        }
        x.copy(1);
        x.take(2, 11, 15, 15);
        Due.is("the last cell differs", x.compare(1, 2, 2), 1);
        Due.is("not alike", x.compare(1, 2, 0), 0);
        Due.is("lies not in", x.compare(1, 2, 1), 0);
        Due.is("lies in", x.compare(2, 1, 1), 1);
        Due.is("lines", x.compare(1, 2, 3), 11);
        Due.noArgument(x, "below", () -> x.compare(0, 1, -1));
        Due.noArgument(x, "above", () -> x.compare(0, 1, 4));
        Due.noIndex(x, "the first", () -> x.compare(3, 0, 4));
        Due.noIndex(x, "the second", () -> x.compare(0, 3, 4));
    }
}
