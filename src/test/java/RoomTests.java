import java.lang.management.ManagementFactory;
import java.nio.charset.StandardCharsets;

/**
 * All that a run makes stays in one room, so an object and its 512 calls must
 * make little: this counts the bytes that the dearest runs of calls take.
 */
public final class RoomTests {
    // 7.3 million fields and elements are there for a whole run.
    private static final long ELEMENTS = 7300000L;
    private static final int CALLS = 512;

    private static int wrong = 0;

    public static void main(String[] args) {
        for (int kind = 0; kind < 6; kind++) {
            work(kind);
        }
        String[] names = {"hours", "mark", "eyes", "where", "laws", "images"};
        for (int kind = 0; kind < 6; kind++) {
            long before = taken();
            work(kind);
            long bytes = taken() - before;
            if (bytes / 4 > ELEMENTS / 10) {
                wrong++;
                System.out.println(names[kind] + ": " + bytes + " bytes in " + CALLS + " calls");
            }
        }
        System.out.println(wrong == 0 ? "room: kept" : wrong + " runs take too much room");
        if (wrong != 0) {
            System.exit(1);
        }
    }

    private static long taken() {
        return ((com.sun.management.ThreadMXBean) ManagementFactory.getThreadMXBean())
                .getThreadAllocatedBytes(Thread.currentThread().getId());
    }

    private static int feed(RoadWater x, byte[] bytes) {
        int calls = 0;
        for (int i = 0; i < bytes.length; i += 20) {
            int[] f = new int[5];
            for (int k = 0; k < 20; k++) {
                f[k / 4] = f[k / 4] << 8 | (i + k < bytes.length ? bytes[i + k] & 255 : 32);
            }
            x.feed(f[0], f[1], f[2], f[3], f[4]);
            calls++;
        }
        return calls;
    }

    private static void work(int kind) {
        RoadWater x = new RoadWater();
        byte[] law = "warm 12 - above * 3 + hour / 9 if above < 7".getBytes(StandardCharsets.ISO_8859_1);
        feed(x, law);
        x.law();
        x.force(0);
        x.thing(50, 12);
        x.terms(3, 10);
        for (int i = 0; i < CALLS - 20; i++) {
            switch (kind) {
                case 0: x.hours(0); break;
                case 1: x.mark(5, 0); break;
                case 2: x.eyes(0, 2); break;
                case 3: x.where(12, 2); break;
                case 4:
                    i += feed(x, law) + 2;
                    x.image(0);
                    x.law();
                    x.back(i % 3 == 0 ? 0 : 1);
                    break;
                default:
                    x.image(i % 2);
                    x.rise(i % 64, i % 3);
                    x.back(1);
                    i += 2;
            }
        }
    }
}
