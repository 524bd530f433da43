import java.util.ArrayList;
import java.util.List;
import java.util.Random;

/** Frames of many records, right and wrong: decode() is compared with a second decoder, written from the document. */
public final class DecodeTwinTest {
    private static final int RUNS = 3000;
    private static final int[] SEEN = new int[11];

    public static void main(String[] args) {
        for (int seed = 0; seed < RUNS; seed++) {
            run(seed, new Random(seed));
        }
        for (int fault = 0; fault < SEEN.length; fault++) {
            Check.due("fault " + fault + " came", Check.bit(SEEN[fault] > 5), 1);
        }
        Check.end();
    }

    private static void run(int seed, Random random) {
        MeterBus x = new MeterBus();
        List<String> list = new ArrayList<>();
        for (int i = 0; i < 6; i++) {
            int[] frame = frame(random);
            TwinDecoder twin = new TwinDecoder(frame, list.size());
            int due = twin.decode();
            SEEN[-due]++;
            if (due == 0) {
                list.addAll(twin.records());
            }
            String what = "seed " + seed + ", " + Check.text(frame);
            Check.due(what, Check.decode(x, frame), due == 0 ? list.size() : due);
            Check.due(what + "place", x.place(), due == 0 ? MeterBus.NONE : twin.place());
            Check.due(what + "records", x.count(3), list.size());
        }
        for (int i = 0; i < list.size(); i++) {
            Check.due("seed " + seed + ", record " + i, Check.record(x, i), list.get(i));
        }
    }

    private static int[] frame(Random random) {
        int[] items = new int[0];
        int n = random.nextInt(4) == 0 ? 40 : random.nextInt(6);
        boolean brief = random.nextInt(4) == 0;
        for (int i = 0; i < n; i++) {
            int[] more = Check.join(items, brief && random.nextInt(20) > 0 ? Check.bytes(i % 2, 0x13, 0x00) : item(random));
            items = more.length <= 237 ? more : items;
        }
        if (random.nextInt(8) == 0 && items.length > 0) {
            items[random.nextInt(items.length)] = random.nextInt(256);
        }
        if (random.nextInt(8) == 0 && items.length > 0) {
            items = java.util.Arrays.copyOf(items, items.length - 1);
        }
        int[] address = {0x78, 0x56, 0x34, 0x12, 1, 2, 3, 4, 0, 0, 0, 0};
        if (random.nextInt(15) == 0) {
            address[random.nextInt(4)] = random.nextInt(256);
        }
        int[] frame = Check.longFrame(0x08, random.nextInt(256), 0x72, Check.join(address, items));
        if (random.nextInt(12) == 0) {
            frame[random.nextInt(frame.length)] = random.nextInt(256);
        }
        return frame;
    }

    /** Now and then with one byte too many, a wrong digit, or a special DIF. */
    private static int[] item(Random random) {
        if (random.nextInt(25) == 0) {
            int[][] specials = {{0x2F}, {0x2F}, {0x2F}, {0x1F}, {0x0F}, {0x3F}, {0x88, 0x01}};
            return specials[random.nextInt(specials.length)];
        }
        int code = new int[] {0, 1, 2, 3, 4, 5, 6, 7, 9, 10, 11, 12, 13, 14}[random.nextInt(14)];
        int[] head = extended(code | random.nextInt(8) << 4, random);
        int[] vifs = extended(random.nextInt(128), random);
        return Check.join(head, vifs, value(code, random));
    }

    private static int[] extended(int first, Random random) {
        int n = random.nextInt(4) > 0 ? 0 : random.nextInt(random.nextInt(20) == 0 ? 13 : 11);
        int[] row = new int[n + 1];
        for (int i = 0; i <= n; i++) {
            row[i] = (i == 0 ? first : random.nextInt(128)) | (i < n ? 0x80 : 0);
        }
        return row;
    }

    private static int[] value(int code, Random random) {
        if (code != 13) {
            int size = new int[] {0, 1, 2, 3, 4, 4, 6, 8, 0, 1, 2, 3, 4, 0, 6}[code];
            return code < 8 ? anyBytes(size, random) : digits(size, random.nextInt(3) == 0, random);
        }
        switch (random.nextInt(5)) {
            case 0: return Check.join(Check.bytes(0xC0), digits(0, false, random));
            case 1:
                int plus = random.nextInt(10);
                return Check.join(Check.bytes(0xC0 + plus), digits(plus, false, random));
            case 2:
                int minus = random.nextInt(10);
                return Check.join(Check.bytes(0xD0 + minus), digits(minus, false, random));
            case 3:
                int size = random.nextInt(9);
                return Check.join(Check.bytes(0xE0 + size), anyBytes(size, random));
            default:
                int letters = random.nextInt(12);
                return Check.join(Check.bytes(letters), anyBytes(letters, random));
        }
    }

    private static int[] anyBytes(int n, Random random) {
        int[] row = new int[n];
        for (int i = 0; i < n; i++) {
            row[i] = random.nextInt(256);
        }
        return row;
    }

    private static int[] digits(int n, boolean minus, Random random) {
        int[] row = new int[n];
        for (int i = 0; i < n; i++) {
            row[i] = random.nextInt(10) << 4 | random.nextInt(10);
        }
        if (minus) {
            row[n - 1] |= 0xF0;
        }
        if (n > 0 && random.nextInt(40) == 0) {
            row[random.nextInt(n)] |= 0xA0;
        }
        return row;
    }
}
