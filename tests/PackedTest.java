/** Promises 22, 45 and 46: pictures packed and read back. */
public final class PackedTest {
    public static void main(String[] args) {
        packed();
        quarters();
        readBack();
        leastPacked();
        wrongOnes();
        Due.end();
    }

    private static void packed() {
        Runpicture x = new Runpicture();
        x.blank();
        Due.is("runs of white", x.packed(0, 0), "");
        Due.is("quarters of white", x.packed(0, 1), ".");
        Due.is("steps of white", x.packed(0, 2), "");
        Due.drawn(x, "##.#//.......#");
        x.put(1, 11, 10, 15);
        Due.is("runs", x.packed(1, 0), "0:0-1,3-3;2:7-7;11:10-15");
        Due.is("steps", x.packed(1, 2), "0,0:EESWWN;0,3:ESWN;2,7:ESWN;11,10:EEEEEESWWWWWWN");
        Due.drawn(x, "#.#/.#/#.#");
        Due.is("steps by eight", x.packed(2, 2), "0,0:ESENESWSESWNWSWNENWN");
        Due.drawn(x, "###/#.#/###");
        Due.is("steps of a hole", x.packed(3, 2), "0,0:EEESSSWWWNNN;2,1:ENWS");
    }

    private static void quarters() {
        Runpicture x = new Runpicture();
        Due.drawn(x, "#");
        Due.is("one cell", x.packed(0, 1), "((((#...)...)...)...)");
        x.not(0);
        Due.is("all but one", x.packed(1, 1), "((((.###)###)###)#(##..)(##..))");
        x.blank();
        x.not(2);
        Due.is("lines 12 to 15 are white", x.packed(3, 1), "(##(##..)(##..))");
        x.put(2, 0, 8, 15);
        Due.is("right above", x.packed(2, 1), "(.(((##..)(##..)..)((##..)(##..)..)..)..)");
        Due.dropTo(x, 0);
        x.blank();
        x.put(0, 11, 15, 15);
        Due.is("the last cell", x.packed(0, 1), "(...(.(...(...#))..))");
        x.put(0, 8, 0, 0);
        Due.is("left below", x.packed(0, 1), "(..(((#...)...)...)(.(...(...#))..))");
    }

    private static void readBack() {
        Runpicture x = new Runpicture();
        x.blank();
        Due.drawn(x, "##.#//.......#/#.#/.#/#.#//.###/.#.#/.#####/...#.#/...###");
        x.blank();
        x.not(2);
        Due.dropTo(x, 4);
        for (int line = 0; line < 12; line++) {
            x.draw(2, line, line % 2 == 0 ? 21845 : 43690);
        }
        for (int pic = 0; pic < 4; pic++) {
            for (int how = 0; how <= 2; how++) {
                Due.is("readBack", x.readBack(pic, how), 4);
                Due.is("alike " + pic + " " + how, x.compare(pic, 4, 0), 1);
                x.drop();
            }
        }
    }

    private static void leastPacked() {
        Runpicture x = new Runpicture();
        x.blank();
        Due.is("the first of several", x.leastPacked(0), 0);
        x.not(0);
        Due.is("quarters", x.leastPacked(1), 1);
        Due.drawn(x, "#");
        Due.is("runs", x.leastPacked(2), 0);
        Due.drawn(x, "#/#/#/#/#/#/#");
        Due.is("steps", x.leastPacked(3), 2);
        Due.drawn(x, "######/.....#");
        Due.is("runs of " + x.packed(4, 0), x.leastPacked(4), 0);
    }

    private static void wrongOnes() {
        Runpicture x = new Runpicture();
        Due.drawn(x, "#");
        for (int pic : new int[] {-1, 1, 8}) {
            Due.noIndex(x, "packed", () -> x.packed(pic, 3));
            Due.noIndex(x, "readBack", () -> x.readBack(pic, 3));
            Due.noIndex(x, "leastPacked", () -> x.leastPacked(pic));
        }
        for (int how : new int[] {-1, 3, Integer.MAX_VALUE}) {
            Due.noArgument(x, "packed", () -> x.packed(0, how));
            Due.noArgument(x, "readBack", () -> x.readBack(0, how));
        }
        Due.fill(x);
        Due.noState(x, "readBack", () -> x.readBack(0, 0));
        Due.noArgument(x, "wrong how", () -> x.readBack(0, 3));
        Due.noIndex(x, "no such picture", () -> x.readBack(8, 0));
    }
}
