import java.lang.management.ManagementFactory;
import java.nio.charset.StandardCharsets;

/**
 * The dearest runs of 512 calls: what they make stays small, since all calls of a run live in
 * one room, and they end soon.
 */
public final class RoomTest {
    /** A call that is made again and again. */
    interface Call {
        int on(ScratchLadder x, int i);
    }

    private static final long MOST_BYTES_OF_ONE = 100_000;
    private static final long MOST_BYTES_OF_TEXTS = 2_000_000;
    private static final long MOST_MILLIS = 5_000;
    private static int wrong = 0;
    private static int kept = 0;

    private static long made() {
        com.sun.management.ThreadMXBean bean =
                (com.sun.management.ThreadMXBean) ManagementFactory.getThreadMXBean();
        return bean.getThreadAllocatedBytes(Thread.currentThread().getId());
    }

    private static void write(ScratchLadder x, String text) {
        byte[] bytes = text.getBytes(StandardCharsets.ISO_8859_1);
        for (int at = 0; at < bytes.length; at += 20) {
            int[] fours = new int[5];
            for (int i = 0; i < 20; i++) {
                fours[i / 4] = fours[i / 4] << 8 | (at + i < bytes.length ? bytes[at + i] : ' ');
            }
            x.feed(fours[0], fours[1], fours[2], fours[3], fours[4]);
        }
    }

    private static ScratchLadder full(int stones, boolean ring) {
        ScratchLadder x = new ScratchLadder();
        for (int i = 0; i < stones; i++) {
            x.stone(i, 100 - i, 200);
            x.point(i, 500 - 40 * i);
        }
        write(x, "cuts if not(point<plane or 1=2 and 3=4)" + " and 1+2*3-4/5=7".repeat(9));
        x.law(x.text());
        x.hand(1, 50, 50);
        for (int i = 0; i < 120; i++) {
            int a = i * 7 % stones;
            int b = (a + 1 + i % (stones - 1)) % stones;
            if (ring || a < b) {
                x.trial(a, b, i % 3, i % 4, ring ? 1 : 0, 1 + i % 100);
            }
        }
        return x;
    }

    private static void check(String name, ScratchLadder x, long mostBytes, Call call) {
        long start = System.nanoTime();
        long before = made();
        for (int i = 0; i < 512; i++) {
            kept += call.on(x, i);
        }
        long bytes = made() - before;
        long millis = (System.nanoTime() - start) / 1_000_000;
        if (bytes > mostBytes || millis > MOST_MILLIS) {
            wrong++;
            System.out.println(name + ": 512 calls made " + bytes + " bytes in " + millis + " ms");
        }
    }

    private static void checkAll(ScratchLadder x) {
        check("orders", x, MOST_BYTES_OF_ONE, (y, i) -> y.orders());
        check("ahead", x, MOST_BYTES_OF_ONE, (y, i) -> y.ahead(i % 8, (i + 3) % 8));
        check("best", x, MOST_BYTES_OF_ONE, (y, i) -> y.best());
        check("fewest", x, MOST_BYTES_OF_ONE, (y, i) -> y.fewest(31 << i % 4, i & 1));
        check("choice", x, MOST_BYTES_OF_ONE, (y, i) -> y.choice(1 + i % 12, i & 1));
        check("called", x, MOST_BYTES_OF_ONE, (y, i) -> y.called(i % 3));
        check("settle", x, MOST_BYTES_OF_ONE, (y, i) -> y.settle(i % 8));
        check("otherwise", x, MOST_BYTES_OF_ONE, (y, i) -> y.otherwise(i % 101));
        check("shapes", x, MOST_BYTES_OF_ONE, (y, i) -> y.shapes(i % 8, i % 16));
        check("glass", x, MOST_BYTES_OF_ONE, (y, i) -> y.glass(i % 8, (i + 1) % 8, i & 1));
        check("image and back", x, MOST_BYTES_OF_ONE,
                (y, i) -> (i & 1) == 0 ? y.image(i / 2 & 1) : y.back(i / 2 & 1));
        check("row", x, MOST_BYTES_OF_ONE, (y, i) -> y.feed(i, i, i, i, i) + y.row());
        check("trial", x, MOST_BYTES_OF_ONE, (y, i) -> y.trial(0, 1, 0, 0, 1, 1));
    }

    public static void main(String[] args) {
        kept += (int) made();
        long before = made();
        kept += new ScratchLadder().count(0);
        long own = made() - before;
        if (own > 150_000) {
            wrong++;
            System.out.println("an object takes " + own + " bytes");
        }
        checkAll(full(12, true));
        checkAll(full(12, false));
        checkAll(full(8, false));
        checkAll(new ScratchLadder());
        ScratchLadder x = new ScratchLadder();
        x.image(0);
        String longest = "cuts if " + "not 1=1 or ".repeat(24) + "1=1";
        check("text", x, MOST_BYTES_OF_TEXTS, (y, i) -> {
            // Far more calls than a run has; each makes room for a text and reads a long one.
            y.back(0);
            write(y, longest);
            int number = y.text();
            wrong += number == 0 ? 0 : 1;
            return number;
        });
        System.out.println(wrong == 0 ? "the room is wide enough" : wrong + " calls want too much");
        if (wrong > 0 || kept == Integer.MIN_VALUE) {
            System.exit(1);
        }
    }
}
