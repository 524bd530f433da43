import com.sun.management.ThreadMXBean;
import java.lang.management.ManagementFactory;

/**
 * "An object is used for at most 512 calls": the 512th answers as the first does, and the dearest runs of so many
 * calls make little: a tenth of the room of 7.3 million fields and elements, told in bytes, is not reached.
 */
public final class RoomTest {
    private static final int CALLS = 512;
    private static final long MOST_BYTES = 3_000_000;
    private static final ThreadMXBean THREADS = (ThreadMXBean) ManagementFactory.getThreadMXBean();

    public static void main(String[] args) {
        searches();
        readOuts();
        decodes();
        meters();
        refusals();
        Check.end();
    }

    private static long made() {
        return THREADS.getThreadAllocatedBytes(Thread.currentThread().getId());
    }

    private static void small(String what, long before) {
        long bytes = made() - before;
        Check.due(what + " make " + bytes + " bytes, few", Check.bit(bytes < MOST_BYTES), 1);
    }

    /** Six pairs that differ in the MEDIUM alone: a search with the most collisions. */
    private static void searches() {
        MeterBus x = new MeterBus();
        for (int k = 0; k < 12; k++) {
            x.meter(k, 1, k / 2 << 28, 0xFEFE, 254, 253 + k % 2);
        }
        long before = made();
        int calls = 12;
        int searches = 0;
        for (; calls < CALLS - 2; calls++) {
            searches++;
            if (x.search() != 12) {
                Check.due("search " + searches, x.search(), 12);
            }
        }
        small("searches", before);
        int frames = 1 + 10 + 6 * (7 * 10 + 4 * 255) + 12 * 3;
        Check.due("call 511: frames", x.count(4), frames * searches);
        Check.due("call 512: collisions", x.count(5), (1 + 6 * 11) * searches);
    }

    private static void readOuts() {
        MeterBus x = new MeterBus();
        x.meter(0, 1, 0x12345678, 1, 1, 1);
        Check.fill(x, Check.join(Check.bytes(0x0D, 0x13, 0x37), Check.repeat(0x37, 0x41), Check.bytes(0x1F)));
        x.page(0, 0);
        x.search();
        long before = made();
        for (int i = 0; i < CALLS; i++) {
            if (x.readOut(0) != 10) {
                Check.due("read-out " + i, x.count(3), 10);
            }
        }
        small("read-outs", before);
        Check.due("the text of the last", x.text(9, 0x36), 0x41);
    }

    /** Texts that get longer, so that an old row does not serve. */
    private static void decodes() {
        MeterBus x = new MeterBus();
        long before = made();
        for (int i = 0; i < CALLS; i++) {
            int size = i * 236 / CALLS;
            Check.due("decode " + i, Check.decode(x, Check.answer(Check.repeat(1, 0x0F))), 1);
            x.clear();
            Check.due("decode " + i, Check.decode(x, Check.answer(Check.join(Check.bytes(0x0F), new int[size]))), 1);
            x.clear();
        }
        long bytes = made() - before;
        Check.due("decodes make " + bytes + " bytes, the tests' own frames too", Check.bit(bytes < 4 * MOST_BYTES), 1);
    }

    private static void meters() {
        MeterBus x = new MeterBus();
        long before = made();
        for (int i = 0; i < CALLS; i++) {
            x.meter(i % 12, 1, 0x12345670 + i % 10, i % 12, 1, 1);
        }
        small("meters", before);
        Check.due("meters there", x.count(0), 12);
    }

    private static void refusals() {
        MeterBus x = new MeterBus();
        int refused = 0;
        for (int i = 0; i < CALLS - 1; i++) {
            try {
                x.typed(i);
            } catch (IndexOutOfBoundsException e) {
                refused++;
            }
        }
        Check.due("refused", refused, CALLS - 1);
        Check.due("call 512", x.type(1, 1), 1);
    }
}
