/** Promises 23 to 25 and 47 to 49: frames, their changes, and labels that follow their parts. */
public final class FilmTest {
    public static void main(String[] args) {
        shootAndFrame();
        changes();
        labelsFollow();
        mostCellsFirst();
        smallerNumberFirst();
        newLabels();
        fullFilm();
        wrongOnes();
        Due.end();
    }

    private static void shootAndFrame() {
        Runpicture x = new Runpicture();
        Due.drawn(x, "#..#");
        Due.is("shoot", x.shoot(0), 0);
        x.put(0, 5, 5, 5);
        Due.is("shoot", x.shoot(0), 1);
        x.take(0, 0, 0, 15);
        Due.is("frame", x.frame(0), 1);
        Due.is("as it was", Due.shown(x, 1), "#..#");
        Due.is("frame", x.frame(1), 2);
        Due.is("as it was", Due.shown(x, 2), "#..#/////.....#");
        x.put(2, 0, 0, 15);
        x.frame(1);
        Due.is("the frame stays", Due.shown(x, 3), "#..#/////.....#");
        Due.dropTo(x, 0);
        Due.is("frames stay without pictures", x.ofFilm(0), 2);
        Due.is("frame", x.frame(1), 0);
        Due.is("cut", x.cut(), 2);
        Due.is("cut again", x.cut(), 0);
        Due.is("no frames", x.ofFilm(0), 0);
        Due.is("pictures stay", x.house(0), 1);
        Due.is("shoot anew", x.shoot(0), 0);
        Due.is("labels anew", x.labels(0), "1 2 3");
    }

    private static void changes() {
        Runpicture x = new Runpicture();
        int[] none = {0, 0, 0, 0, -1};
        for (int what = 0; what <= 4; what++) {
            Due.is("ofFilm " + what, x.ofFilm(what), none[what]);
        }
        x.blank();
        x.shoot(0);
        int[] white = {1, 0, 0, 0, 0};
        for (int what = 0; what <= 4; what++) {
            Due.is("ofFilm of white " + what, x.ofFilm(what), white[what]);
        }
        x.put(0, 3, 2, 6);
        x.shoot(0);
        x.take(0, 3, 4, 4);
        x.put(0, 4, 0, 2);
        x.shoot(0);
        x.shoot(0);
        int[] due = {4, 3, 9, 2, 1};
        for (int what = 0; what <= 4; what++) {
            Due.is("ofFilm " + what, x.ofFilm(what), due[what]);
        }
        x.blank();
        x.shoot(1);
        Due.is("the frame with most", x.ofFilm(4), 4);
        Due.is("cells", x.ofFilm(2), 16);
        Due.is("runs", x.ofFilm(1), 6);
        x.cut();
        x.shoot(1);
        x.put(1, 6, 6, 6);
        x.shoot(1);
        x.take(1, 6, 6, 6);
        x.shoot(1);
        Due.is("the first of several with most", x.ofFilm(4), 1);
    }

    private static void labelsFollow() {
        Runpicture x = new Runpicture();
        Due.drawn(x, "##..##/##..##");
        x.shoot(0);
        Due.is("first frame", x.labels(0), "1 2");
        Due.drawn(x, "/.#..#");
        x.shoot(1);
        Due.is("they follow", x.labels(1), "1 2");
        Due.drawn(x, "....##/.#..#");
        x.shoot(2);
        Due.is("in another order", x.labels(2), "2 1");
        Due.is("label", x.label(2, 0, 5), 2);
        Due.is("label", x.label(2, 1, 1), 1);
        Due.is("label of a white cell", x.label(2, 0, 0), 0);
        Due.is("label of an earlier frame", x.label(0, 1, 1), 1);
        Due.is("label of an earlier frame", x.label(0, 1, 5), 2);
        x.blank();
        x.shoot(3);
        Due.is("no parts", x.labels(3), "");
        x.shoot(0);
        Due.is("they do not come back", x.labels(4), "3 4");
        Due.is("the greatest", x.ofFilm(3), 4);
        Due.drawn(x, "#/.#");
        x.cut();
        x.shoot(4);
        Due.is("parts by eight", x.labels(0), "1");
    }

    private static void mostCellsFirst() {
        Runpicture x = new Runpicture();
        Due.drawn(x, "#.#####");
        Due.drawn(x, "#######");
        Due.drawn(x, "##.####");
        x.shoot(0);
        x.shoot(1);
        x.shoot(2);
        Due.is("two parts", x.labels(0), "1 2");
        Due.is("the one with more cells", x.labels(1), "2");
        Due.is("the one that gets it, and a new one", x.labels(2), "3 2");
        x.shoot(0);
        Due.is("none of this frame has that of the other one", x.labels(3), "3 2");
        Due.is("the greatest", x.ofFilm(3), 3);
    }

    private static void smallerNumberFirst() {
        Runpicture x = new Runpicture();
        Due.drawn(x, "##.##");
        Due.drawn(x, "#####");
        x.shoot(0);
        x.shoot(1);
        Due.is("the smaller one ahead", x.labels(1), "1");
        x.shoot(0);
        Due.is("the smaller one of this frame", x.labels(2), "1 3");
        x.cut();
        Due.drawn(x, "#.##/#.##/#/####");
        Due.drawn(x, "..##/..##//####/####");
        x.shoot(3);
        x.shoot(2);
        Due.is("ahead", x.labels(0), "1 2");
        Due.is("ties of four: this frame first, then ahead", x.labels(1), "2 1");
    }

    private static void newLabels() {
        Runpicture x = new Runpicture();
        Due.drawn(x, "#.#.#");
        Due.drawn(x, "....#");
        Due.drawn(x, "#.#.#.#");
        x.shoot(0);
        x.shoot(1);
        x.shoot(2);
        Due.is("one left", x.labels(1), "3");
        Due.is("new ones by rising numbers", x.labels(2), "4 5 3 6");
        Due.is("the greatest", x.ofFilm(3), 6);
        x.shoot(1);
        Due.is("the greatest stays", x.ofFilm(3), 6);
        x.cut();
        Due.is("without any", x.ofFilm(3), 0);
        x.blank();
        for (int line = 0; line < 12; line += 2) {
            x.draw(3, line, 21845);
        }
        x.shoot(3);
        Due.is("most parts", x.ofFilm(3), 48);
        x.move(3, 1, 1);
        x.shoot(4);
        Due.is("all new", x.ofFilm(3), 96);
        Due.is("the last", x.label(1, 11, 15), 96);
        x.shoot(4);
        Due.is("all the same", x.label(2, 11, 15), 96);
    }

    private static void fullFilm() {
        Runpicture x = new Runpicture();
        Due.drawn(x, "#");
        for (int k = 0; k < 8; k++) {
            Due.is("shoot", x.shoot(0), k);
        }
        Due.noState(x, "shoot with 8", () -> x.shoot(0));
        Due.noIndex(x, "no such picture", () -> x.shoot(1));
        Due.is("the last one", x.labels(7), "1");
        Due.fill(x);
        Due.noState(x, "frame in a full house", () -> x.frame(0));
        Due.noIndex(x, "no such frame", () -> x.frame(8));
        Due.is("cut", x.cut(), 8);
        Due.is("room again", x.shoot(0), 0);
    }

    private static void wrongOnes() {
        Runpicture x = new Runpicture();
        Due.drawn(x, "#");
        Due.noIndex(x, "frame", () -> x.frame(0));
        x.shoot(0);
        for (int k : new int[] {-1, 1, 8, Integer.MIN_VALUE}) {
            Due.noIndex(x, "frame", () -> x.frame(k));
            Due.noIndex(x, "label", () -> x.label(k, 0, 0));
            Due.noIndex(x, "labels", () -> x.labels(k));
        }
        for (int[] at : new int[][] {{12, 0}, {-1, 0}, {0, 16}, {0, -1}}) {
            Due.noIndex(x, "label", () -> x.label(0, at[0], at[1]));
        }
        for (int pic : new int[] {-1, 1, 8}) {
            Due.noIndex(x, "shoot", () -> x.shoot(pic));
        }
        Due.noArgument(x, "ofFilm", () -> x.ofFilm(-1));
        Due.noArgument(x, "ofFilm", () -> x.ofFilm(5));
    }
}
