import java.math.BigInteger;

/**
 * The edges of promises 1 and 50 to 53: a new object, the house empty and full, knocks, soundness,
 * the checksum that wraps around, and the last of 512 calls.
 */
public final class HouseEdgesTest {
    private static final String RINGS =
            "#########/#.......#/#.#####.#/#.#...#.#/#.#.#.#.#/#.#...#.#/#.#####.#/#.......#/#########";
    private static final BigInteger WRAP = BigInteger.ONE.shiftLeft(64);

    public static void main(String[] args) {
        newObject();
        emptyHouse();
        fullHouse();
        unlikeOnes();
        whatFromNoneToFour();
        knocks();
        soundWithoutPictures();
        soundOfTheLastPicture();
        checksumBelowTheWrap();
        checksumWrapsAround();
        signsOfLabels();
        askingChangesNothing();
        theLastCall();
        Due.end();
    }

    private static void tellsHouse(Runpicture x, int... due) {
        for (int what = 0; what < due.length; what++) {
            Due.is("house " + what, x.house(what), due[what]);
        }
    }

    private static void newObject() {
        Runpicture x = new Runpicture();
        tellsHouse(x, 0, 0, 0, 0, 0);
        int[] film = {0, 0, 0, 0, -1};
        for (int what = 0; what <= 4; what++) {
            Due.is("ofFilm " + what, x.ofFilm(what), film[what]);
        }
        Due.is("isSound", x.isSound(), true);
        Due.is("cut", x.cut(), 0);
        Due.noState(x, "drop", () -> x.drop());
        Due.noIndex(x, "copy", () -> x.copy(0));
        Due.noIndex(x, "frame", () -> x.frame(0));
        Due.noIndex(x, "shoot", () -> x.shoot(0));
        Due.is("blank", x.blank(), 0);
        tellsHouse(new Runpicture(), 0, 0, 0, 0, 0);
    }

    private static void emptyHouse() {
        Runpicture x = new Runpicture();
        Due.drawn(x, "##");
        x.knock();
        x.drop();
        tellsHouse(x, 0, 0, 0, 0, 1);
        for (int pic : new int[] {-1, 0, 1, 7, 8, Integer.MAX_VALUE, Integer.MIN_VALUE}) {
            Due.noIndex(x, "text", () -> x.text(pic, 0));
            Due.noIndex(x, "copy", () -> x.copy(pic));
            Due.noIndex(x, "compare", () -> x.compare(pic, pic, 0));
        }
    }

    private static void fullHouse() {
        Runpicture x = new Runpicture();
        x.blank();
        for (int line = 0; line < 12; line++) {
            x.draw(0, line, line % 2 == 0 ? 21845 : 43690);
        }
        for (int n = 1; n < 8; n++) {
            x.not(n - 1);
        }
        tellsHouse(x, 8, 768, 768, 2, 0);
        for (int pic = 0; pic < 8; pic++) {
            for (int line = 0; line < 12; line++) {
                x.draw(pic, line, 65535);
            }
        }
        tellsHouse(x, 8, 1536, 96, 1, 0);
        x.draw(7, 11, 0);
        tellsHouse(x, 8, 1520, 95, 2, 0);
    }

    private static void unlikeOnes() {
        Runpicture x = new Runpicture();
        for (int n = 0; n < 8; n++) {
            x.blank();
            tellsHouse(x, n + 1, 0, 0, 1, 0);
        }
        for (int n = 1; n < 8; n++) {
            x.put(n, 11, 16 - n, 16 - n);
            Due.is("unlike ones", x.house(3), n < 7 ? n + 1 : 8);
        }
        x.take(7, 11, 9, 9);
        x.put(7, 11, 15, 15);
        Due.is("the last like the second", x.house(3), 7);
        x.take(1, 11, 15, 15);
        Due.is("the second like the first", x.house(3), 7);
    }

    private static void whatFromNoneToFour() {
        Runpicture x = new Runpicture();
        x.knock();
        Due.is("the last", x.house(4), 1);
        for (int what : new int[] {-1, 5, Integer.MAX_VALUE, Integer.MIN_VALUE}) {
            Due.noArgument(x, "house", () -> x.house(what));
            Due.noArgument(x, "ofFilm", () -> x.ofFilm(what));
        }
    }

    private static void knocks() {
        Runpicture x = new Runpicture();
        Due.is("none yet", x.house(4), 0);
        for (int n = 1; n <= 510; n++) {
            Due.is("knock", x.knock(), n);
        }
        Due.is("the 512th call", x.house(4), 510);
    }

    private static void soundWithoutPictures() {
        Runpicture x = new Runpicture();
        Due.is("new", x.isSound(), true);
        Due.drawn(x, "#");
        x.shoot(0);
        x.drop();
        Due.is("with a frame", x.isSound(), true);
    }

    private static void soundOfTheLastPicture() {
        String[] all = {
            "", "#", "///////////...............#", RINGS, "#####/##..#/#.#.#/#...#/#####", "####/##.#/#.##/####",
            "#.#.#.#.#.#.#.#./.#.#.#.#.#.#.#.#/".repeat(6), "################/".repeat(12), ".#/#.#/.#"
        };
        for (String lines : all) {
            Runpicture x = new Runpicture();
            Due.drawn(x, lines);
            Due.is("sound: " + lines, x.isSound(), true);
            x.not(0);
            Due.is("turned round: " + lines, x.isSound(), true);
            Due.fill(x);
            Due.is("in a full house", x.isSound(), true);
        }
    }

    /** As the document tells it, without the end of 64 bits. */
    private static BigInteger sumOf(Runpicture x) {
        Sum d = new Sum();
        for (int what = 0; what <= 4; what++) {
            d.add(x.house(what));
        }
        for (int pic = 0; pic < x.house(0); pic++) {
            for (int what = 0; what <= 13; what++) {
                d.add(x.ofPicture(pic, what));
            }
            for (int line = 0; line < 12; line++) {
                String signs = new StringBuilder(x.text(pic, line)).reverse().toString();
                d.add(Integer.parseInt(signs.replace('#', '1').replace('.', '0'), 2));
            }
            d.add(x.largest(pic, false));
            d.add(x.largest(pic, true));
            d.add(x.tree(pic, false).length());
            d.add(x.tree(pic, true).length());
            d.add(x.leastPacked(pic));
            for (int measure = 0; measure <= 2; measure++) {
                d.add(x.farthest(pic, measure));
            }
        }
        for (int what = 0; what <= 4; what++) {
            d.add(x.ofFilm(what));
        }
        for (int k = 0; k < x.ofFilm(0); k++) {
            for (char sign : x.labels(k).toCharArray()) {
                d.add(sign);
            }
        }
        d.add(x.isSound() ? 1 : 0);
        return d.sum;
    }

    /** The sum as it grows. */
    private static final class Sum {
        private BigInteger sum = BigInteger.valueOf(6109);

        void add(int value) {
            sum = sum.multiply(BigInteger.valueOf(31)).add(BigInteger.valueOf(value));
        }
    }

    /** Without pictures just the last of the 11 numbers goes over 64 bits. */
    private static void checksumBelowTheWrap() {
        Runpicture x = new Runpicture();
        BigInteger whole = sumOf(x);
        Due.is("the whole sum", whole.bitLength(), 68);
        Due.is("the sum before the last one", whole.divide(BigInteger.valueOf(31)).bitLength(), 63);
        Due.is("new object", x.digest(), 7646432770460699621L);
        Due.is("by hand", BigInteger.valueOf(x.digest()).subtract(whole).mod(WRAP), BigInteger.ZERO);
        x.knock();
        Due.is("a knock more", x.digest(), 7646432770460699621L + 31L * 31 * 31 * 31 * 31 * 31);
    }

    private static void checksumWrapsAround() {
        boolean isBelow = false;
        boolean isAbove = false;
        for (int n = 0; n < 24; n++) {
            Runpicture x = new Runpicture();
            Due.drawn(x, n % 3 == 0 ? RINGS : n % 3 == 1 ? "####/##.#/#.##/####" : "#/.#//.#");
            for (int more = 0; more < n % 8; more++) {
                x.move(more, more % 3, 1);
                x.shoot(more);
            }
            if (n % 2 == 0) {
                Due.fill(x);
            }
            BigInteger whole = sumOf(x);
            long got = x.digest();
            Due.is("many times beyond 64 bits", whole.bitLength() > 128, true);
            Due.is("wraps around", BigInteger.valueOf(got).subtract(whole).mod(WRAP), BigInteger.ZERO);
            Due.is("the same", got, whole.longValue());
            isBelow |= got < 0;
            isAbove |= got > 0;
        }
        Due.is("some are below 0, some above", isBelow && isAbove, true);
    }

    /** Two frames of like counts and other labels: the codes of digits and of spaces count. */
    private static void signsOfLabels() {
        Runpicture x = new Runpicture();
        Due.drawn(x, "#.#");
        x.shoot(0);
        x.drop();
        BigInteger whole = sumOf(x);
        Due.is("with \"1 2\"", x.digest(), whole.longValue());
        long d = 6109;
        for (int v : new int[] {0, 0, 0, 0, 0, 1, 2, 2, 2, 0, 49, 32, 50, 1}) {
            d = d * 31 + v;
        }
        Due.is("number by number", x.digest(), d);
    }

    private static void askingChangesNothing() {
        Runpicture x = new Runpicture();
        Due.drawn(x, RINGS);
        x.thin(0);
        x.shoot(0);
        x.shoot(1);
        long before = x.digest();
        Due.is("isSound", x.isSound(), true);
        Due.is("behind isSound", x.digest(), before);
        x.places(0, 1, 3);
        x.outline(0, true, 1);
        x.ofPart(0, true, 0, 5);
        x.leastPacked(0);
        x.label(0, 0, 0);
        Due.is("behind all those", x.digest(), before);
        Due.is("the picture", Due.shown(x, 0), RINGS);
    }

    private static void theLastCall() {
        Runpicture x = new Runpicture();
        Due.drawn(x, "");
        x.put(0, 3, 3, 3);
        for (int n = 0; n < 127; n++) {
            Due.is("shoot", x.shoot(0), n % 8);
            Due.is("grow", x.grow(0, 511), 1);
            Due.is("drop", x.drop(), 1);
            if (n % 8 == 7) {
                Due.is("cut", x.cut(), 8);
            } else {
                Due.is("knock", x.knock(), n - n / 8 + 1);
            }
        }
        Due.is("the 511th call", x.labels(6), "1");
        Due.is("the 512th call", x.ofFilm(0), 7);
    }
}
