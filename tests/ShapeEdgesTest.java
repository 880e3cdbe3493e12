/**
 * The edges of what the document tells in its part 2, and of promises 13 to 16: shapes 0 to 511,
 * and what their moves do where they go beyond the picture.
 */
public final class ShapeEdgesTest {
    private static final int[][] CORNERS = {{0, 0}, {0, 15}, {11, 0}, {11, 15}};
    private static final int[][] MOVES = {{-1, -1}, {-1, 0}, {-1, 1}, {0, -1}, {0, 0}, {0, 1}, {1, -1}, {1, 0}, {1, 1}};

    public static void main(String[] args) {
        shapesFromNoneToAll();
        sixteenIsTheMoveByNothing();
        eachDigitIsAMove();
        grownBeyondIsGone();
        shrunkOfWhite();
        movesBeyondDoNotCount();
        shapeWithoutMoves();
        emptyAndFullByAllMoves();
        openedAtTheEdge();
        closedAtTheEdge();
        Due.end();
    }

    /** The cells of a new picture that one call makes of picture 0. */
    private static int cells(Runpicture x, String how, int shape) {
        int pic = how.equals("grow") ? x.grow(0, shape) : how.equals("shrink") ? x.shrink(0, shape)
                : how.equals("open") ? x.open(0, shape) : x.close(0, shape);
        int cells = x.ofPicture(pic, 0);
        x.drop();
        return cells;
    }

    private static void shapesFromNoneToAll() {
        Runpicture x = new Runpicture();
        Due.drawn(x, "//////.......#");
        String[] hows = {"grow", "shrink", "open", "close"};
        int[][] due = {{0, 9}, {192, 0}, {0, 0}, {192, 1}};
        for (int n = 0; n < 4; n++) {
            String how = hows[n];
            Due.is(how + " by 0", cells(x, how, 0), due[n][0]);
            Due.is(how + " by 511", cells(x, how, 511), due[n][1]);
            Due.noArgument(x, how + " by -1", () -> cells(x, how, -1));
            Due.noArgument(x, how + " by 512", () -> cells(x, how, 512));
        }
    }

    private static void sixteenIsTheMoveByNothing() {
        Runpicture x = new Runpicture();
        Due.drawn(x, "#.#/.#./............../#..............#");
        x.put(0, 11, 13, 15);
        Due.is("grow", x.grow(0, 16), 1);
        Due.is("shrink", x.shrink(0, 16), 2);
        Due.is("open", x.open(0, 16), 3);
        Due.is("close", x.close(0, 16), 4);
        for (int pic = 1; pic <= 4; pic++) {
            Due.is("alike " + pic, x.compare(0, pic, 0), 1);
        }
    }

    private static void eachDigitIsAMove() {
        Runpicture x = new Runpicture();
        Due.drawn(x, "/////.......#");
        for (int digit = 0; digit < 9; digit++) {
            int line = 5 + MOVES[digit][0];
            int column = 7 + MOVES[digit][1];
            x.grow(0, 1 << digit);
            Due.is("grown by one move", x.ofPicture(1, 0), 1);
            Due.is("grown to line " + digit, x.ofPicture(1, 7), line);
            Due.is("grown to column " + digit, x.ofPicture(1, 8), column);
            x.drop();
            x.shrink(0, 1 << digit);
            Due.is("shrunk to where the move begins", x.sum(1, 10 - line, 14 - column, 10 - line, 14 - column), 1);
            x.drop();
            x.open(0, 1 << digit);
            Due.is("opened by one move", x.compare(0, 1, 0), 1);
            x.drop();
        }
    }

    private static void grownBeyondIsGone() {
        Runpicture x = new Runpicture();
        x.blank();
        for (int[] at : CORNERS) {
            x.put(0, at[0], at[1], at[1]);
            Due.is("by all moves", cells(x, "grow", 511), 4);
            Due.is("by the cross", cells(x, "grow", 186), 3);
            for (int digit = 0; digit < 9; digit++) {
                int line = at[0] + MOVES[digit][0];
                int column = at[1] + MOVES[digit][1];
                boolean isIn = line >= 0 && line <= 11 && column >= 0 && column <= 15;
                Due.is("by the move " + digit, cells(x, "grow", 1 << digit), isIn ? 1 : 0);
            }
            x.draw(0, at[0], 0);
        }
        x.put(0, 3, 15, 15);
        x.grow(0, 1 << 5);
        Due.is("not into the next line", x.ofPicture(1, 0), 0);
        x.put(0, 3, 0, 0);
        x.grow(0, 1 << 3);
        Due.is("not into the line ahead", Due.shown(x, 2), "///..............#");
    }

    /** Where a move goes beyond the picture, it asks for nothing. */
    private static void shrunkOfWhite() {
        Runpicture x = new Runpicture();
        x.blank();
        int[] cells = {27, 16, 27, 12, 0, 12, 27, 16, 27};
        for (int digit = 0; digit < 9; digit++) {
            Due.is("shrunk by the move " + digit, cells(x, "shrink", 1 << digit), cells[digit]);
        }
        x.shrink(0, 1 << 1);
        Due.is("the first line", x.runs(1, 0), "0-15");
        x.shrink(0, 1 << 7);
        Due.is("the last line", x.runs(2, 11), "0-15");
        x.shrink(0, 1 << 3);
        Due.is("the first column", x.runs(3, 6), "0-0");
        x.shrink(0, 1 << 5);
        Due.is("the last column", x.runs(4, 6), "15-15");
        Due.is("by two moves that go beyond just in one corner", cells(x, "shrink", (1 << 1) + (1 << 3)), 1);
        Due.is("by two moves that never go beyond both", cells(x, "shrink", (1 << 1) + (1 << 7)), 0);
        Due.is("by all moves", cells(x, "shrink", 511), 0);
        Due.is("opened by a move", cells(x, "open", 1 << 1), 0);
    }

    private static void movesBeyondDoNotCount() {
        Runpicture x = new Runpicture();
        x.blank();
        for (int[] at : CORNERS) {
            int up = at[0] == 0 ? 1 : 7;
            int side = at[1] == 0 ? 3 : 5;
            x.put(0, at[0], at[1], at[1]);
            Due.is("up, beside and by nothing", cells(x, "shrink", (1 << up) + (1 << side) + 16), 1);
            Due.is("all moves", cells(x, "shrink", 511), 0);
            int beside = at[1] == 0 ? 0 : 14;
            int other = at[0] == 0 ? 1 : 10;
            x.put(0, at[0], beside, beside + 1);
            x.put(0, other, beside, beside + 1);
            x.shrink(0, 511);
            Due.is("all moves in the picture", x.ofPicture(1, 0), 1);
            Due.is("line", x.ofPicture(1, 7), at[0]);
            Due.is("column", x.ofPicture(1, 8), at[1]);
            x.drop();
            x.draw(0, at[0], 0);
            x.draw(0, other, 0);
        }
    }

    private static void shapeWithoutMoves() {
        Runpicture x = new Runpicture();
        x.blank();
        int[][] due = {{0, 192, 0, 192}, {0, 192, 0, 192}};
        for (int full = 0; full <= 1; full++) {
            Due.is("grow by none", cells(x, "grow", 0), due[full][0]);
            Due.is("shrink by none", cells(x, "shrink", 0), due[full][1]);
            Due.is("open by none", cells(x, "open", 0), due[full][2]);
            Due.is("close by none", cells(x, "close", 0), due[full][3]);
            for (int line = 0; line < 12; line++) {
                x.draw(0, line, 65535);
            }
        }
    }

    private static void emptyAndFullByAllMoves() {
        Runpicture x = new Runpicture();
        x.blank();
        for (String how : new String[] {"grow", "shrink", "open", "close"}) {
            Due.is("white: " + how, cells(x, how, 511), 0);
        }
        for (int line = 0; line < 12; line++) {
            x.draw(0, line, 65535);
        }
        for (String how : new String[] {"grow", "shrink", "open", "close"}) {
            Due.is("black: " + how, cells(x, how, 511), 192);
        }
        Due.is("black grown by one move", cells(x, "grow", 1), 11 * 15);
        Due.is("black shrunk by one move", cells(x, "shrink", 1), 192);
        Due.is("black opened by one move", cells(x, "open", 1), 11 * 15);
        Due.is("black closed by one move", cells(x, "close", 1), 192);
        x.take(0, 5, 7, 7);
        Due.is("all but one: grow", cells(x, "grow", 511), 192);
        Due.is("all but one: shrink", cells(x, "shrink", 511), 183);
        Due.is("all but one: open", cells(x, "open", 511), 191);
        Due.is("all but one: close", cells(x, "close", 511), 192);
    }

    private static void openedAtTheEdge() {
        Runpicture x = new Runpicture();
        Due.drawn(x, "##/##");
        x.open(0, 511);
        Due.is("two lines and columns stay in a corner", Due.shown(x, 1), "##/##");
        Due.dropTo(x, 0);
        Due.drawn(x, "...##/...##");
        x.open(0, 511);
        Due.is("at one edge alone they go", Due.shown(x, 1), "");
        Due.dropTo(x, 0);
        Due.drawn(x, "...###/...###");
        x.open(0, 511);
        Due.is("three columns stay there", Due.shown(x, 1), "...###/...###");
    }

    private static void closedAtTheEdge() {
        Runpicture x = new Runpicture();
        Due.drawn(x, "#.#");
        x.close(0, 511);
        Due.is("a gap at the edge", Due.shown(x, 1), "###");
        Due.dropTo(x, 0);
        x.blank();
        for (int[] at : CORNERS) {
            x.put(0, at[0], at[1], at[1]);
            x.close(0, 511);
            Due.is("a cell in a corner", x.compare(0, 1, 0), 1);
            x.drop();
            x.draw(0, at[0], 0);
        }
        x.put(0, 1, 1, 1);
        x.close(0, 511);
        Due.is("what is grown to the edge stays there", Due.shown(x, 1), "##/##");
    }
}
