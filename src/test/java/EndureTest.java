import java.util.Random;

/** Runs of any calls with any numbers: only exceptions that the face names, and a call that throws changes nothing. */
public final class EndureTest {
    private static final int[] ODD = {0, 1, 2, 3, 7, 8, 11, 12, 60, 100, 253, 254, 255, 300, -1,
        Integer.MAX_VALUE, Integer.MIN_VALUE};

    private static final String INDEX = "IndexOutOfBoundsException", ARGUMENT = "IllegalArgumentException",
        UNSUPPORTED = "UnsupportedOperationException";
    /** What the face names for each call. */
    private static final String[] NAMED = {ARGUMENT + UNSUPPORTED, ARGUMENT, INDEX, INDEX + ARGUMENT, INDEX,
        INDEX + UNSUPPORTED, INDEX, "", "", INDEX, INDEX, "", "", "", INDEX, INDEX, INDEX, ARGUMENT};

    public static void main(String[] args) {
        for (int seed = 0; seed < 150; seed++) {
            Random random = new Random(seed);
            MeterBus x = new MeterBus();
            for (int i = 0; i < 120; i++) {
                step(seed, x, random);
            }
        }
        Check.end();
    }

    private static int number(Random random) {
        return random.nextInt(3) == 0 ? ODD[random.nextInt(ODD.length)] : random.nextInt(12);
    }

    private static void step(int seed, MeterBus x, Random random) {
        String before = Check.seen(x);
        int call = random.nextInt(24);
        String got = "";
        try {
            call(x, call, random);
        } catch (RuntimeException e) {
            got = e.getClass().getSimpleName();
        }
        if (got.isEmpty()) {
            return;
        }
        Check.due("seed " + seed + ": what is seen behind a throw", Check.seen(x), before);
        boolean named = call < NAMED.length && NAMED[call].contains(got);
        Check.due("seed " + seed + ": call " + call + " may throw " + got, Check.bit(named), 1);
    }

    private static void call(MeterBus x, int call, Random random) {
        int a = number(random);
        int b = number(random);
        switch (call) {
            case 0: x.type(random.nextLong(), a); break;
            case 1: x.keep(a); break;
            case 2: x.typed(a); break;
            case 3: x.meter(a, b, number(random), number(random), number(random), number(random)); break;
            case 4: x.remove(a); break;
            case 5: x.page(a, b % 4); break;
            case 6: x.state(a, b); break;
            case 7: x.send(); break;
            case 8: x.search(); break;
            case 9: x.found(a, b); break;
            case 10: x.readOut(a); break;
            case 11: x.decode(); break;
            case 12: x.place(); break;
            case 13: x.clear(); break;
            case 14: x.record(a, b); break;
            case 15: x.text(a, b); break;
            case 16: x.count(a); break;
            case 17: x.meter(random.nextInt(12), random.nextInt(251), random.nextInt(10), random.nextInt(3), 0, 0); break;
            case 18: Check.fill(x, bytes(random, 60)); break;
            case 19: Check.decode(x, Check.answer(bytes(random, 237))); break;
            case 20: Check.send(x, Check.shortFrame(random.nextBoolean() ? 0x5B : 0x7B, random.nextInt(256))); break;
            case 21: Check.send(x, Check.longFrame(0x53, 253, 0x50 + random.nextInt(3), bytes(random, 9))); break;
            case 22: Check.fill(x, bytes(random, 300)); break;
            default: fillPage(x, random); break;
        }
    }

    private static void fillPage(MeterBus x, Random random) {
        int k = random.nextInt(12);
        if (x.state(k, 0) == 1) {
            Check.fill(x, bytes(random, 40));
            x.page(k, random.nextInt(3));
        }
    }

    /** Small bytes more often, so that records are read for a while before a fault comes. */
    private static int[] bytes(Random random, int most) {
        int[] row = new int[random.nextInt(most + 1)];
        for (int i = 0; i < row.length; i++) {
            row[i] = random.nextInt(4) == 0 ? random.nextInt(256) : random.nextInt(16);
        }
        return row;
    }
}
