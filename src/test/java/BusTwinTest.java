import java.util.Random;
import java.util.function.LongSupplier;

/** Runs of calls, right and wrong: every answer, and all that is seen behind it, is compared with a second bus. */
public final class BusTwinTest {
    private static final int RUNS = 120, CALLS = 120;
    private static final int[] ODD = {-1, 0, 1, 2, 3, 6, 7, 8, 9, 11, 12, 60, 100, 250, 251, 254, 255, 256, 300,
        Integer.MAX_VALUE, Integer.MIN_VALUE};
    private static final int[] ADDRESSED = {0, 1, 1, 2, 2, 3, 3, 250, 251, 252, 253, 253, 253, 253, 254, 255};
    private static final int[][] ITEMS = {{0x01, 0x13, 0x05}, {0x0C, 0x14, 0x78, 0x56, 0x34, 0x12}, {0x2F}, {0x00, 0x93, 0x01},
        {0x0D, 0x13, 0x02, 0x41, 0x42}, {0x84, 0x50, 0x13, 1, 2, 3, 4}, {0x09, 0x13, 0xF7}};
    /** The last of a page, now and then: it ends the records, or is wrong. */
    private static final int[][] LAST = {{0x1F}, {0x0F, 0x33}, {0x08, 0x01}, {0x02, 0x13, 0x05}, {0x09, 0x13, 0xFA}, {0x1F, 0x2F}};

    private final String name;
    private final Random random;
    private final MeterBus x = new MeterBus();
    private final TwinBus y = new TwinBus();

    private BusTwinTest(int seed) {
        name = "seed " + seed;
        random = new Random(seed);
    }

    public static void main(String[] args) {
        for (int seed = 0; seed < RUNS; seed++) {
            new BusTwinTest(seed).run();
        }
        Check.end();
    }

    private void run() {
        Check.due(name + ": a new object", Check.seen(x), y.seen());
        for (int i = random.nextInt(12); i >= 0; i--) {
            aMeter();
            aPage();
        }
        for (int i = 0; i < CALLS; i++) {
            step();
            Check.due(name + ", step " + i, Check.seen(x), y.seen());
        }
    }

    private static String said(LongSupplier call) {
        try {
            return String.valueOf(call.getAsLong());
        } catch (IllegalArgumentException | UnsupportedOperationException e) {
            return e.getClass().getSimpleName();
        } catch (IndexOutOfBoundsException e) {
            return "IndexOutOfBoundsException";
        }
    }

    private void same(String what, LongSupplier ofX, LongSupplier ofY) {
        Check.due(name + ": " + what, said(ofX), said(ofY));
    }

    private int one(int... of) {
        return of[random.nextInt(of.length)];
    }

    private int any() {
        return random.nextInt(3) == 0 ? one(ODD) : random.nextInt(12);
    }

    private void step() {
        switch (random.nextInt(16)) {
            case 0: aMeter(); break;
            case 1: wrongMeter(); break;
            case 2: refusable(); break;
            case 3: send(changed(random.nextBoolean() ? aShortFrame() : aLongFrame())); break;
            case 4: case 5: aPage(); break;
            case 6: case 7: master(); break;
            case 8: case 9: answerThenDecode(); break;
            case 10: case 11: case 12: send(aShortFrame()); break;
            default: send(aLongFrame()); break;
        }
    }

    /** Few addresses, most of them told apart by their idents, so that a search is not long. */
    private void aMeter() {
        int k = random.nextInt(12);
        int primary = one(0, 1, 2, 3, 250);
        int ident = one(0x12345678, 0x12345679, 0x92345678, 0x02345678, 0x12945678, 0);
        int medium = random.nextInt(8) == 0 ? one(0, 254) : 7;
        same("meter", () -> {
            x.meter(k, primary, ident, 0x0203, 1, medium);
            return 0;
        }, () -> {
            y.meter(k, primary, ident, 0x0203, 1, medium);
            return 0;
        });
    }

    private void wrongMeter() {
        int[] a = {random.nextInt(12), 1, one(0x12345678, 0x1234567A, 0xA2345678), one(0x0203, 0xFF, 0xFF00), 1, 7};
        a[random.nextInt(6)] = any();
        same("meter", () -> {
            x.meter(a[0], a[1], a[2], a[3], a[4], a[5]);
            return 0;
        }, () -> {
            y.meter(a[0], a[1], a[2], a[3], a[4], a[5]);
            return 0;
        });
    }

    private void fill(int... bytes) {
        Check.fill(x, bytes);
        y.keep(0);
        for (int b : bytes) {
            y.type(b, 1);
        }
    }

    private void send(int... frame) {
        fill(frame);
        same("send " + Check.text(frame), x::send, y::send);
    }

    private int[] items() {
        int[] all = new int[0];
        for (int n = random.nextInt(6); n > 0; n--) {
            all = Check.join(all, ITEMS[random.nextInt(ITEMS.length)]);
        }
        return random.nextInt(5) > 0 ? all : Check.join(all, LAST[random.nextInt(LAST.length)]);
    }

    /** Of a meter that is there, if one of some that are looked at is. */
    private void aPage() {
        int some = random.nextInt(12);
        for (int tries = 0; tries < 12 && x.state(some, 0) == 0; tries++) {
            some = (some + 1) % 12;
        }
        int k = some;
        int i = random.nextInt(3);
        fill(items());
        same("page", () -> x.page(k, i), () -> y.page(k, i));
    }

    private void master() {
        if (random.nextInt(5) == 0) {
            same("search", x::search, y::search);
        }
        int k = random.nextInt(4) == 0 ? any() : random.nextInt(4);
        same("readOut", () -> x.readOut(k), () -> y.readOut(k));
    }

    private void answerThenDecode() {
        if (random.nextInt(2) == 0) {
            fill(changed(Check.answer(items())));
        } else {
            send(Check.shortFrame(one(0x5B, 0x7B), one(1, 2, 253)));
        }
        same("decode", x::decode, y::decode);
    }

    /** Half of them stay as they are. */
    private int[] changed(int... frame) {
        int[] other = frame.clone();
        if (random.nextBoolean()) {
            other[random.nextInt(other.length)] = random.nextInt(256);
        }
        return other;
    }

    private int[] aShortFrame() {
        int c = random.nextInt(12) == 0 ? random.nextInt(256) : one(0x40, 0x5B, 0x7B, 0x5B, 0x7B);
        return Check.shortFrame(c, one(ADDRESSED));
    }

    private int[] aLongFrame() {
        int c = random.nextInt(12) == 0 ? random.nextInt(256) : one(0x53, 0x73);
        int a = one(ADDRESSED);
        switch (random.nextInt(6)) {
            case 0: return Check.longFrame(c, a, 0x50);
            case 1: return Check.longFrame(c, a, 0x51, 0x01, 0x7A, one(0, 1, 2, 250, 251, 255));
            case 2: return Check.longFrame(c, a, one(0x50, 0x51, 0x52), items());
            default: return Check.longFrame(c, random.nextInt(6) == 0 ? a : 253, 0x52, aMask());
        }
    }

    private int[] aMask() {
        int[] mask = {one(0x78, 0x79, 0xF8, 0x7F), one(0x56, 0xFF), one(0x34, 0x94, 0xFF), one(0x12, 0x92, 0xF2, 0x1F, 0xFF),
            one(3, 0xFF), one(2, 0xFF), one(1, 0xFF), one(7, 0, 254, 0xFF, 0xFF, 0xFF)};
        for (int i = random.nextInt(3); i > 0; i--) {
            mask[random.nextInt(8)] = 0xFF;
        }
        return mask;
    }

    private void refusable() {
        int a = any();
        int b = any();
        long bytes = random.nextLong();
        same("type", () -> x.type(bytes, a), () -> y.type(bytes, a));
        same("typed", () -> x.typed(b), () -> y.typed(b));
        same("keep", () -> {
            x.keep(b);
            return 0;
        }, () -> {
            y.keep(b);
            return 0;
        });
        same("page", () -> x.page(a, b), () -> y.page(a, b));
        same("state", () -> x.state(a, b), () -> y.state(a, b));
        same("found", () -> x.found(a, b), () -> y.found(a, b));
        same("record", () -> x.record(a, b), () -> y.record(a, b));
        same("text", () -> x.text(a, b), () -> y.text(a, b));
        same("count", () -> x.count(a), () -> y.count(a));
        same("place", x::place, y::place);
        same("remove", () -> Check.bit(x.remove(a)), () -> Check.bit(y.remove(a)));
        if (random.nextInt(4) == 0) {
            same("clear", x::clear, y::clear);
        }
    }
}
