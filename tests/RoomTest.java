import java.lang.management.ManagementFactory;

/**
 * All calls of a run live in one room of 600,000 objects and 7.3 million elements: looks whether an
 * object and 512 calls of each of the dearest kinds, in a full house, fit into it.
 */
public final class RoomTest {
    private static final com.sun.management.ThreadMXBean BEAN =
            (com.sun.management.ThreadMXBean) ManagementFactory.getThreadMXBean();

    /** No element takes less than a byte and no object less than 16: the room holds 512 such calls. */
    private static final int BYTES_OF_ONE = 14_000;
    /** What is left of the room then. */
    private static final int BYTES_OF_OBJECT = 130_000;

    /** Behind the calls that make the house full, no more than 512 in all. */
    private static final int TIMES = 120;

    public static void main(String[] args) {
        // The first calls load what the machine needs.
        callAll(fullHouse());
        looks("an object", BYTES_OF_OBJECT, x -> new Runpicture());
        looks("digest", BYTES_OF_ONE, x -> x.digest());
        looks("isSound", BYTES_OF_ONE, x -> x.isSound());
        looks("leastPacked", BYTES_OF_ONE, x -> x.leastPacked(1));
        looks("ofFilm", BYTES_OF_ONE, x -> x.ofFilm(3));
        looks("shoot", BYTES_OF_ONE, x -> x.cut() + x.shoot(1) + x.shoot(2));
        looks("skeleton", BYTES_OF_ONE, x -> x.drop() + x.skeleton(3));
        looks("packed", BYTES_OF_ONE, x -> x.packed(1, 2));
        looks("outline", BYTES_OF_ONE, x -> x.outline(1, true, 0));
        looks("tree", BYTES_OF_ONE, x -> x.tree(2, false));
        Due.end();
    }

    /** A call whose room is looked at. */
    private interface Call {
        Object of(Runpicture x);
    }

    private static Runpicture fullHouse() {
        Runpicture x = new Runpicture();
        for (int pic = 0; pic < 8; pic++) {
            x.blank();
            for (int line = 0; line < 12; line++) {
                x.draw(pic, line, (line + pic) % 2 == 0 ? 21845 : 65535 - 1024 * pic);
            }
            x.shoot(pic);
        }
        for (int line = 0; line < 12; line++) {
            x.draw(1, line, line % 2 == 0 ? 21845 : 43690);
        }
        return x;
    }

    private static void callAll(Runpicture x) {
        x.digest();
        x.isSound();
        for (int how = 0; how <= 2; how++) {
            x.packed(1, how);
        }
        x.outline(1, true, 0);
        x.tree(2, false);
        x.labels(7);
    }

    private static void looks(String call, int bytesEach, Call called) {
        Runpicture x = fullHouse();
        // The first of these calls lets the texts that are used again grow to their length.
        called.of(x);
        long before = BEAN.getCurrentThreadAllocatedBytes();
        for (int n = 0; n < TIMES; n++) {
            called.of(x);
        }
        long bytes = (BEAN.getCurrentThreadAllocatedBytes() - before) / TIMES;
        Due.is(call + " takes " + bytes + " bytes, within " + bytesEach, bytes <= bytesEach, true);
    }
}
