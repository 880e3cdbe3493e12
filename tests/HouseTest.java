/** Promises 50 to 53: the house, knocks, soundness, the checksum. */
public final class HouseTest {
    public static void main(String[] args) {
        house();
        knock();
        sound();
        digest();
        Due.end();
    }

    private static void house() {
        Runpicture x = new Runpicture();
        Due.drawn(x, "##.#/#");
        Due.drawn(x, "###");
        x.copy(0);
        x.copy(1);
        x.blank();
        int[] due = {5, 14, 8, 3, 0};
        for (int what = 0; what <= 4; what++) {
            Due.is("house " + what, x.house(what), due[what]);
        }
        x.put(3, 11, 15, 15);
        Due.is("unlike ones", x.house(3), 4);
        Due.noArgument(x, "house", () -> x.house(-1));
        Due.noArgument(x, "house", () -> x.house(5));
    }

    private static void knock() {
        Runpicture x = new Runpicture();
        for (int n = 1; n <= 5; n++) {
            Due.is("knock", x.knock(), n);
            Due.is("house", x.house(4), n);
        }
        Due.is("one knocks at each house", new Runpicture().knock(), 1);
    }

    private static void sound() {
        Runpicture x = new Runpicture();
        Due.is("empty", x.isSound(), true);
        x.blank();
        Due.is("white", x.isSound(), true);
        x.not(0);
        Due.is("black", x.isSound(), true);
        Due.drawn(x, "####/##.#/#.##/####//#.#/.#/#.#//#.........#####//...............#");
        String before = Due.stateOf(x);
        Due.is("holes and corners", x.isSound(), true);
        Due.is("it changes nothing", Due.stateOf(x), before);
        x.blank();
        for (int line = 0; line < 12; line++) {
            x.draw(3, line, line % 2 == 0 ? 21845 : 43690);
        }
        Due.is("every other", x.isSound(), true);
    }

    private static void digest() {
        Runpicture x = new Runpicture();
        Due.is("of nothing", x.digest(), 7646432770460699621L);
        x.knock();
        Due.is("after a knock", x.digest(), digestOf(x));
        Due.drawn(x, "####/##.#/#.##/####//#.#/.#/#.#//#.........#####//...............#");
        x.blank();
        Due.is("of two", x.digest(), digestOf(x));
        x.shoot(0);
        x.thin(0);
        x.shoot(2);
        x.shoot(1);
        x.not(0);
        x.shoot(3);
        Due.is("with frames", x.digest(), digestOf(x));
    }

    /** As the document tells it, of what the other calls answer. */
    private static long digestOf(Runpicture x) {
        long d = 6109;
        for (int what = 0; what <= 4; what++) {
            d = d * 31 + x.house(what);
        }
        for (int pic = 0; pic < x.house(0); pic++) {
            for (int what = 0; what <= 13; what++) {
                d = d * 31 + x.ofPicture(pic, what);
            }
            for (int line = 0; line < 12; line++) {
                String signs = new StringBuilder(x.text(pic, line)).reverse().toString();
                d = d * 31 + Integer.parseInt(signs.replace('#', '1').replace('.', '0'), 2);
            }
            d = d * 31 + x.largest(pic, false);
            d = d * 31 + x.largest(pic, true);
            d = d * 31 + x.tree(pic, false).length();
            d = d * 31 + x.tree(pic, true).length();
            d = d * 31 + x.leastPacked(pic);
            for (int measure = 0; measure <= 2; measure++) {
                d = d * 31 + x.farthest(pic, measure);
            }
        }
        for (int what = 0; what <= 4; what++) {
            d = d * 31 + x.ofFilm(what);
        }
        for (int k = 0; k < x.ofFilm(0); k++) {
            for (char sign : x.labels(k).toCharArray()) {
                d = d * 31 + sign;
            }
        }
        return d * 31 + (x.isSound() ? 1 : 0);
    }
}
