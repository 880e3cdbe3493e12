/**
 * Each sentence of promise 52, asked by the other calls: of every picture that fits into four lines
 * and four columns, of all rings of five with every inside, and of some that fill the whole.
 *
 * <p>That there are as many outlines as parts and holes tells when an outline is back, too: one that
 * ended where it first comes to its corner again would leave a piece that is an outline more.
 */
public final class SoundTest {
    private static final int CALLS_OF_ONE = 100;
    private static Runpicture x;
    private static int calls;
    private static int backTooEarlyByFour = 0;
    private static int backTooEarlyByEight = 0;

    public static void main(String[] args) {
        allOfFourByFour();
        allRingsOfFive();
        wholePictures();
        Due.is("outlines that pass their first corner, by four", backTooEarlyByFour > 0, true);
        Due.is("outlines that pass their first corner, by eight", backTooEarlyByEight > 0, true);
        Due.end();
    }

    /** A white picture with the number 0, of an object that has calls enough left. */
    private static void begin(String[] lines) {
        if (x == null || calls + CALLS_OF_ONE > 512) {
            x = new Runpicture();
            x.blank();
            calls = 1;
        }
        for (int line = 0; line < lines.length; line++) {
            x.draw(0, line, Integer.parseInt(lines[line], 16));
        }
        calls += lines.length;
    }

    private static String hex(int bits) {
        return Integer.toString(bits, 16);
    }

    private static void allOfFourByFour() {
        for (int cells = 0; cells < 65536; cells++) {
            begin(new String[] {
                hex(cells & 15), hex(cells >> 4 & 15), hex(cells >> 8 & 15), hex(cells >> 12)
            });
            outlinesAre("4 by 4 " + cells);
        }
    }

    private static void allRingsOfFive() {
        x = null;
        for (int cells = 0; cells < 512; cells++) {
            begin(new String[] {
                "7c00", hex(17408 | (cells & 7) << 11), hex(17408 | (cells >> 3 & 7) << 11),
                hex(17408 | (cells >> 6) << 11), "7c00"
            });
            outlinesAre("ring " + cells);
            restIs("ring " + cells);
        }
    }

    /** Few cells and many; the numbers are the same each time. */
    private static void wholePictures() {
        long seed = 52;
        for (int n = 0; n < 300; n++) {
            x = null;
            String[] lines = new String[12];
            for (int line = 0; line < 12; line++) {
                int bits = 0;
                for (int column = 0; column < 16; column++) {
                    seed = seed * 6364136223846793005L + 1442695040888963407L;
                    bits |= (seed >>> 33) % 10 <= n % 9 ? 1 << column : 0;
                }
                lines[line] = hex(bits);
            }
            begin(lines);
            outlinesAre("whole " + n);
            restIs("whole " + n);
        }
    }

    private static void outlinesAre(String name) {
        for (boolean isEight : new boolean[] {false, true}) {
            String way = name + (isEight ? " by eight: " : " by four: ");
            int outlines = x.outlines(0, isEight);
            int parts = x.ofPicture(0, isEight ? 4 : 3);
            int holes = x.ofPicture(0, isEight ? 6 : 5);
            Due.is(way + "as many outlines as parts and holes", outlines, parts + holes);
            int area = 0;
            for (int k = 0; k < outlines; k++) {
                area += x.ofOutline(0, isEight, k, 3);
                countIfBackTooEarly(x.outline(0, isEight, k), isEight);
            }
            Due.is(way + "their areas are its cells", area, x.ofPicture(0, 0));
            int made = x.refill(0, isEight);
            Due.is(way + "filled by them it is itself", x.compare(0, made, 0), 1);
            x.drop();
            calls += 7 + 2 * outlines;
        }
    }

    private static void countIfBackTooEarly(String steps, boolean isEight) {
        int line = 0;
        int column = 0;
        for (int n = 0; n < steps.length() - 1; n++) {
            line += "N.S".indexOf(steps.charAt(n)) >= 0 ? "N.S".indexOf(steps.charAt(n)) - 1 : 0;
            column += "W.E".indexOf(steps.charAt(n)) >= 0 ? "W.E".indexOf(steps.charAt(n)) - 1 : 0;
            if (line == 0 && column == 0) {
                backTooEarlyByFour += isEight ? 0 : 1;
                backTooEarlyByEight += isEight ? 1 : 0;
            }
        }
    }

    private static void restIs(String name) {
        for (int how = 0; how <= 2; how++) {
            isAlike(name + " packed " + how, x.readBack(0, how));
        }
        liesIn(name + " grown", x.grow(0, 186), x.grow(0, 511));
        liesIn(name + " shrunk", x.shrink(0, 511), x.shrink(0, 186));
        int skeleton = x.skeleton(0);
        Due.is(name + " skeleton's parts", x.ofPicture(skeleton, 4), x.ofPicture(0, 4));
        Due.is(name + " skeleton's holes", x.ofPicture(skeleton, 6), x.ofPicture(0, 6));
        x.drop();
        Due.is(name + " sound", x.isSound(), true);
        calls += 27;
    }

    private static void isAlike(String name, int made) {
        Due.is(name, x.compare(0, made, 0), 1);
        x.drop();
    }

    private static void liesIn(String name, int one, int other) {
        Due.is(name, x.compare(one, other, 1), 1);
        x.drop();
        x.drop();
    }
}
