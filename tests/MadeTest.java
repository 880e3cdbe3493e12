/** Promises 7 to 18: pictures made of others. */
public final class MadeTest {
    public static void main(String[] args) {
        copyAndJoin();
        notAndMirror();
        moveAndScale();
        growAndShrink();
        openAndClose();
        thinAndSkeleton();
        fullHouse();
        Due.end();
    }

    private static void copyAndJoin() {
        Runpicture x = new Runpicture();
        Due.drawn(x, "##/#");
        Due.is("copy", x.copy(0), 1);
        Due.is("alike", x.compare(0, 1, 0), 1);
        x.put(1, 5, 5, 5);
        Due.is("of its own", Due.shown(x, 0), "##/#");
        Due.noIndex(x, "copy", () -> x.copy(2));
        Due.noIndex(x, "copy", () -> x.copy(-1));
        Due.dropTo(x, 1);
        Due.drawn(x, ".##//#");
        String[] joined = {"###/#/#", ".#", "#/#", "#.#/#/#"};
        for (int how = 0; how <= 3; how++) {
            Due.is("join", x.join(0, 1, how), 2 + how);
            Due.is("joined " + how, Due.shown(x, 2 + how), joined[how]);
        }
        x.join(1, 0, 2);
        Due.is("the other way", Due.shown(x, 6), "..#//#");
        x.join(0, 0, 3);
        Due.is("the same twice", Due.shown(x, 7), "");
        Due.dropTo(x, 3);
        Due.noIndex(x, "one", () -> x.join(3, 0, 0));
        Due.noIndex(x, "other", () -> x.join(0, 3, 9));
        Due.noArgument(x, "how", () -> x.join(0, 1, 4));
        Due.noArgument(x, "how", () -> x.join(0, 1, -1));
    }

    private static void notAndMirror() {
        Runpicture x = new Runpicture();
        Due.drawn(x, "##/#");
        Due.is("not", x.not(0), 1);
        Due.is("cells", x.ofPicture(1, 0), 189);
        Due.is("first line", x.text(1, 0), "..##############");
        x.not(1);
        Due.is("and back", x.compare(0, 2, 0), 1);
        Due.noIndex(x, "not", () -> x.not(3));
        Due.dropTo(x, 1);
        Due.is("mirror", x.mirror(0, 0), 1);
        Due.is("left with right", Due.shown(x, 1), "..............##/...............#");
        Due.is("mirror", x.mirror(0, 1), 2);
        Due.is("above with below", Due.shown(x, 2), "//////////#/##");
        Due.is("mirror", x.mirror(0, 2), 3);
        Due.is("both", Due.shown(x, 3), "//////////...............#/..............##");
        Due.noIndex(x, "picture", () -> x.mirror(4, 3));
        Due.noArgument(x, "how", () -> x.mirror(0, 3));
        Due.noArgument(x, "how", () -> x.mirror(0, -1));
    }

    private static void moveAndScale() {
        Runpicture x = new Runpicture();
        Due.drawn(x, "##/#");
        int[][] moves = {{0, 0}, {2, 3}, {11, 15}, {-1, 0}, {0, -1}, {12, 0}, {0, 16}, {-16, -16}, {16, 0}};
        String[] moved = {"##/#", "//...##/...#", "///////////...............#", "#", "#", "", "", "", ""};
        for (int n = 0; n < moves.length; n++) {
            Due.is("move", x.move(0, moves[n][0], moves[n][1]), 1);
            Due.is("moved " + n, Due.shown(x, 1), moved[n]);
            x.drop();
        }
        Due.noIndex(x, "picture", () -> x.move(1, 17, 0));
        for (int far : new int[] {17, -17, Integer.MAX_VALUE, Integer.MIN_VALUE}) {
            Due.noArgument(x, "down", () -> x.move(0, far, 0));
            Due.noArgument(x, "right", () -> x.move(0, 0, far));
        }
        Due.drawn(x, "#.../.#../../....#");
        Due.is("scale by 1", x.scale(1, 1), 2);
        Due.is("like itself", x.compare(1, 2, 0), 1);
        Due.is("scale by 2", x.scale(1, 2), 3);
        Due.is("scaled by 2", Due.shown(x, 3), "##/##/..##/..##///........##/........##");
        Due.is("scale by 4", x.scale(1, 4), 4);
        Due.is("what is beyond is gone", Due.shown(x, 4), "####/####/####/####/....####/....####/....####/....####");
        Due.is("scale by 3", x.scale(1, 3), 5);
        Due.is("last line", x.text(5, 11), "............###.");
        Due.noIndex(x, "picture", () -> x.scale(6, 0));
        Due.noArgument(x, "times", () -> x.scale(0, 0));
        Due.noArgument(x, "times", () -> x.scale(0, 5));
    }

    /** A shape of one move: 0 left above, 1 above, 2 right above, 3 left, and on. */
    private static void growAndShrink() {
        Runpicture x = new Runpicture();
        Due.drawn(x, "//..#");
        String[] moved = {"/.#", "/..#", "/...#", "//.#", "//..#", "//...#", "///.#", "///..#", "///...#"};
        for (int move = 0; move < 9; move++) {
            Due.is("grow", x.grow(0, 1 << move), 1);
            Due.is("grown by the move " + move, Due.shown(x, 1), moved[move]);
            x.drop();
        }
        x.grow(0, 186);
        Due.is("grown by the cross", Due.shown(x, 1), "/..#/.###/..#");
        x.shrink(1, 186);
        Due.is("and shrunk", Due.shown(x, 2), "//..#");
        x.grow(0, 0);
        Due.is("grown by nothing", x.ofPicture(3, 0), 0);
        x.shrink(0, 0);
        Due.is("shrunk by nothing", x.ofPicture(4, 0), 192);
        x.shrink(4, 511);
        Due.is("moves beyond do not count", x.ofPicture(5, 0), 192);
        Due.dropTo(x, 0);
        Due.drawn(x, "#...............//......##........");
        x.grow(0, 0b100000);
        Due.is("to the right", Due.shown(x, 1), ".#//.......##");
        x.shrink(0, 0b100000);
        Due.is("black to the right, or beyond",
                Due.shown(x, 2), "...............#/...............#/.....##........#/" + edge(9));
        x.shrink(0, 0b010);
        Due.is("black above, or beyond", x.text(3, 0), "################");
        Due.is("black above", x.text(3, 1), "#...............");
        x.shrink(0, 0b010000000);
        Due.is("black below, or beyond", x.text(4, 11), "################");
        Due.is("black below", x.text(4, 1), "......##........");
        x.grow(4, 0b010000000);
        Due.is("what is beyond is gone", x.text(5, 11), "................");
        wrongShapes(x);
    }

    private static String edge(int lines) {
        return "...............#/".repeat(lines).replaceAll("/$", "");
    }

    private static void wrongShapes(Runpicture x) {
        Due.dropTo(x, 1);
        Due.noIndex(x, "grow", () -> x.grow(1, 512));
        Due.noIndex(x, "shrink", () -> x.shrink(-1, 0));
        Due.noIndex(x, "open", () -> x.open(1, -1));
        Due.noIndex(x, "close", () -> x.close(1, 0));
        for (int shape : new int[] {-1, 512, Integer.MAX_VALUE}) {
            Due.noArgument(x, "grow", () -> x.grow(0, shape));
            Due.noArgument(x, "shrink", () -> x.shrink(0, shape));
            Due.noArgument(x, "open", () -> x.open(0, shape));
            Due.noArgument(x, "close", () -> x.close(0, shape));
        }
        Due.fill(x);
        Due.noArgument(x, "grow in a full house", () -> x.grow(0, 512));
        Due.noArgument(x, "shrink in a full house", () -> x.shrink(0, 512));
        Due.noArgument(x, "open in a full house", () -> x.open(0, 512));
        Due.noArgument(x, "close in a full house", () -> x.close(0, 512));
    }

    private static void openAndClose() {
        Runpicture x = new Runpicture();
        Due.drawn(x, "///..####/..####...#/..####");
        Due.is("open", x.open(0, 511), 1);
        Due.is("opened", Due.shown(x, 1), "///..####/..####/..####");
        Due.drawn(x, "///..####/..#.##/..####");
        Due.is("close", x.close(2, 511), 3);
        Due.is("closed", Due.shown(x, 3), "///..####/..####/..####");
        Due.is("open by a move", x.open(0, 0b100000), 4);
        Due.is("just as before", x.compare(0, 4, 1), 1);
        x.open(0, 0b110000);
        Due.is("runs of two stay", Due.shown(x, 5), "///..####/..####/..####");
        x.close(0, 0b100010000);
        Due.is("closed by a slope", Due.shown(x, 6), "///..####/..####...#/..####");
        x.open(0, 0);
        Due.is("opened by nothing", x.ofPicture(7, 0), 0);
        x.drop();
        x.close(0, 0);
        Due.is("closed by nothing", x.ofPicture(7, 0), 192);
    }

    private static void thinAndSkeleton() {
        Runpicture x = new Runpicture();
        Due.drawn(x, "/.#####/.#####/.#####");
        Due.is("thin", x.thin(0), 1);
        Due.is("thinned", Due.shown(x, 1), "//.#####");
        Due.is("skeleton", x.skeleton(0), 2);
        Due.is("no more to take", x.thin(2), 3);
        Due.is("nothing changes", x.compare(2, 3, 0), 1);
        Due.drawn(x, "#");
        x.thin(4);
        Due.is("a cell stays", Due.shown(x, 5), "#");
        Due.dropTo(x, 0);
        Due.drawn(x, "##/##");
        x.thin(0);
        Due.is("a square", Due.shown(x, 1), "/##");
        Due.dropTo(x, 0);
        Due.drawn(x, "..######/..######/..######/..######/..######/..######/..######/..######/..######");
        x.thin(0);
        Due.is("from all four sides", Due.shown(x, 1), "/...####/...####/...####/...####/...####/...####/...####");
        x.skeleton(0);
        Due.is("to the end", Due.shown(x, 2), "///.....#/.....#/.....#");
        Due.dropTo(x, 0);
        Due.drawn(x, "##/##");
        x.thin(0);
        Due.drawn(x, "#####/#####/##.##/#####/#####");
        x.skeleton(2);
        Due.is("the hole stays", x.ofPicture(3, 6), 1);
        Due.is("a ring", Due.shown(x, 3), "/..##/.#..#/.#.#/..#");
        x.drop();
        x.thin(2);
        Due.is("it took more than once", Due.shown(x, 3), "/.###/.#..#/.#.#/..#");
        x.skeleton(2);
        x.not(0);
        x.skeleton(5);
        Due.is("one part", x.ofPicture(6, 4), 1);
        Due.is("no hole", x.ofPicture(6, 6), 0);
        Due.noIndex(x, "thin", () -> x.thin(7));
        Due.noIndex(x, "skeleton", () -> x.skeleton(-1));
    }

    private static void fullHouse() {
        Runpicture x = new Runpicture();
        Due.drawn(x, "##/#");
        Due.fill(x);
        Due.noState(x, "copy", () -> x.copy(0));
        Due.noState(x, "join", () -> x.join(0, 1, 0));
        Due.noState(x, "not", () -> x.not(0));
        Due.noState(x, "mirror", () -> x.mirror(0, 0));
        Due.noState(x, "move", () -> x.move(0, 0, 0));
        Due.noState(x, "scale", () -> x.scale(0, 1));
        Due.noState(x, "grow", () -> x.grow(0, 1));
        Due.noState(x, "shrink", () -> x.shrink(0, 1));
        Due.noState(x, "open", () -> x.open(0, 1));
        Due.noState(x, "close", () -> x.close(0, 1));
        Due.noState(x, "thin", () -> x.thin(0));
        Due.noState(x, "skeleton", () -> x.skeleton(0));
        Due.noIndex(x, "copy of none", () -> x.copy(8));
        Due.noIndex(x, "thin of none", () -> x.thin(8));
        Due.noArgument(x, "join how", () -> x.join(0, 1, 4));
        Due.noArgument(x, "mirror how", () -> x.mirror(0, 3));
        Due.noArgument(x, "move far", () -> x.move(0, 17, 0));
        Due.noArgument(x, "scale by 5", () -> x.scale(0, 5));
    }
}
