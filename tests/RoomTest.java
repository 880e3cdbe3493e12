import java.lang.management.ManagementFactory;

/**
 * All calls of a run live in one room, so a call must make nothing but its text: looks how many
 * bytes 512 calls of the dearest kinds take.
 */
public final class RoomTest {
    private static final com.sun.management.ThreadMXBean BEAN =
            (com.sun.management.ThreadMXBean) ManagementFactory.getThreadMXBean();

    public static void main(String[] args) {
        Runpicture x = fullHouse();
        // The first calls grow the tapes and load what the machine needs.
        for (int n = 0; n < 3; n++) {
            callAll(x);
        }
        looks("an object", 512, 60_000, () -> new Runpicture());
        looks("digest", 512, 40, () -> x.digest());
        looks("isSound", 512, 40, () -> x.isSound());
        looks("leastPacked", 512, 40, () -> x.leastPacked(1));
        looks("ofFilm", 512, 40, () -> x.ofFilm(3));
        looks("shoot", 512, 40, () -> x.cut() + x.shoot(1) + x.shoot(2));
        looks("skeleton", 512, 40, () -> x.drop() + x.skeleton(3));
        looks("packed", 512, 2_000, () -> x.packed(1, 2));
        looks("outline", 512, 2_000, () -> x.outline(1, true, 0));
        looks("tree", 512, 2_000, () -> x.tree(2, false));
        Due.end();
    }

    private static Runpicture fullHouse() {
        Runpicture x = new Runpicture();
        for (int pic = 0; pic < 8; pic++) {
            x.blank();
            for (int line = 0; line < 12; line++) {
                x.draw(pic, line, (line + pic) % 2 == 0 ? 21845 : 65535 - 1024 * pic);
            }
            x.shoot(pic);
        }
        for (int line = 0; line < 12; line++) {
            x.draw(1, line, line % 2 == 0 ? 21845 : 43690);
        }
        return x;
    }

    private static void callAll(Runpicture x) {
        x.digest();
        x.isSound();
        for (int how = 0; how <= 2; how++) {
            x.packed(1, how);
        }
        x.outline(1, true, 0);
        x.tree(2, false);
        x.labels(7);
    }

    private static void looks(String call, int times, int bytesEach, Due.Call called) {
        called.answer();
        long before = BEAN.getCurrentThreadAllocatedBytes();
        for (int n = 0; n < times; n++) {
            called.answer();
        }
        long bytes = (BEAN.getCurrentThreadAllocatedBytes() - before) / times;
        Due.is(call + " takes " + bytes + " bytes, within " + bytesEach, bytes <= bytesEach, true);
    }
}
