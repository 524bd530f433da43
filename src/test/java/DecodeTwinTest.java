import java.math.BigInteger;
import java.util.ArrayList;
import java.util.List;
import java.util.Random;

/** Frames of many records, right and wrong: decode() is compared with a second decoder, written from the document. */
public final class DecodeTwinTest {
    private static final int RUNS = 3000;
    private static final int[] SEEN = new int[11];

    public static void main(String[] args) {
        for (int seed = 0; seed < RUNS; seed++) {
            run(seed, new Random(seed));
        }
        for (int fault = 0; fault < SEEN.length; fault++) {
            Check.due("fault " + fault + " came", Check.bit(SEEN[fault] > 5), 1);
        }
        Check.end();
    }

    private static void run(int seed, Random random) {
        MeterBus x = new MeterBus();
        List<String> list = new ArrayList<>();
        for (int i = 0; i < 6; i++) {
            int[] frame = frame(random);
            Twin twin = new Twin(frame, list.size());
            int due = twin.decode();
            SEEN[-due]++;
            if (due == 0) {
                list.addAll(twin.records);
            }
            String what = "seed " + seed + ", " + Check.text(frame);
            Check.due(what, Check.decode(x, frame), due == 0 ? list.size() : due);
            Check.due(what + "place", x.place(), due == 0 ? MeterBus.NONE : twin.place);
            Check.due(what + "records", x.count(3), list.size());
        }
        for (int i = 0; i < list.size(); i++) {
            Check.due("seed " + seed + ", record " + i, Check.record(x, i), list.get(i));
        }
    }

    private static int[] frame(Random random) {
        int[] items = new int[0];
        int n = random.nextInt(4) == 0 ? 40 : random.nextInt(6);
        boolean brief = random.nextInt(4) == 0;
        for (int i = 0; i < n; i++) {
            int[] more = Check.join(items, brief && random.nextInt(20) > 0 ? Check.bytes(i % 2, 0x13, 0x00) : item(random));
            items = more.length <= 237 ? more : items;
        }
        if (random.nextInt(8) == 0 && items.length > 0) {
            items[random.nextInt(items.length)] = random.nextInt(256);
        }
        if (random.nextInt(8) == 0 && items.length > 0) {
            items = java.util.Arrays.copyOf(items, items.length - 1);
        }
        int[] address = {0x78, 0x56, 0x34, 0x12, 1, 2, 3, 4, 0, 0, 0, 0};
        if (random.nextInt(15) == 0) {
            address[random.nextInt(4)] = random.nextInt(256);
        }
        int[] frame = Check.longFrame(0x08, random.nextInt(256), 0x72, Check.join(address, items));
        if (random.nextInt(12) == 0) {
            frame[random.nextInt(frame.length)] = random.nextInt(256);
        }
        return frame;
    }

    /** Now and then with one byte too many, a wrong digit, or a special DIF. */
    private static int[] item(Random random) {
        if (random.nextInt(25) == 0) {
            int[][] specials = {{0x2F}, {0x2F}, {0x2F}, {0x1F}, {0x0F}, {0x3F}, {0x88, 0x01}};
            return specials[random.nextInt(specials.length)];
        }
        int code = new int[] {0, 1, 2, 3, 4, 5, 6, 7, 9, 10, 11, 12, 13, 14}[random.nextInt(14)];
        int[] head = extended(code | random.nextInt(8) << 4, random);
        int[] vifs = extended(random.nextInt(128), random);
        return Check.join(head, vifs, value(code, random));
    }

    private static int[] extended(int first, Random random) {
        int n = random.nextInt(4) > 0 ? 0 : random.nextInt(random.nextInt(20) == 0 ? 13 : 11);
        int[] row = new int[n + 1];
        for (int i = 0; i <= n; i++) {
            row[i] = (i == 0 ? first : random.nextInt(128)) | (i < n ? 0x80 : 0);
        }
        return row;
    }

    private static int[] value(int code, Random random) {
        if (code != 13) {
            int size = new int[] {0, 1, 2, 3, 4, 4, 6, 8, 0, 1, 2, 3, 4, 0, 6}[code];
            return code < 8 ? anyBytes(size, random) : digits(size, random.nextInt(3) == 0, random);
        }
        switch (random.nextInt(5)) {
            case 0: return Check.join(Check.bytes(0xC0), digits(0, false, random));
            case 1:
                int plus = random.nextInt(10);
                return Check.join(Check.bytes(0xC0 + plus), digits(plus, false, random));
            case 2:
                int minus = random.nextInt(10);
                return Check.join(Check.bytes(0xD0 + minus), digits(minus, false, random));
            case 3:
                int size = random.nextInt(9);
                return Check.join(Check.bytes(0xE0 + size), anyBytes(size, random));
            default:
                int letters = random.nextInt(12);
                return Check.join(Check.bytes(letters), anyBytes(letters, random));
        }
    }

    private static int[] anyBytes(int n, Random random) {
        int[] row = new int[n];
        for (int i = 0; i < n; i++) {
            row[i] = random.nextInt(256);
        }
        return row;
    }

    private static int[] digits(int n, boolean minus, Random random) {
        int[] row = new int[n];
        for (int i = 0; i < n; i++) {
            row[i] = random.nextInt(10) << 4 | random.nextInt(10);
        }
        if (minus) {
            row[n - 1] |= 0xF0;
        }
        if (n > 0 && random.nextInt(40) == 0) {
            row[random.nextInt(n)] |= 0xA0;
        }
        return row;
    }

    /** A fault is thrown here, by its number and place. */
    private static final class Fault extends RuntimeException {
        private static final long serialVersionUID = 1;
        private final int number;
        private final int place;

        Fault(int number, int place) {
            this.number = number;
            this.place = place;
        }
    }

    private static final class Twin {
        private final int[] frame;
        private final int before;
        private final List<String> records = new ArrayList<>();
        private int place = MeterBus.NONE;
        private int at = 19;
        private int end = 0;

        Twin(int[] frame, int before) {
            this.frame = frame;
            this.before = before;
        }

        int decode() {
            try {
                head();
                while (at < end) {
                    item();
                }
                return 0;
            } catch (Fault fault) {
                place = fault.place;
                return -fault.number;
            }
        }

        private void head() {
            expect(0, 0x68, 0x68);
            expect(1, 0x0F, 0xFC);
            expect(2, frame[1], frame[1]);
            expect(3, 0x68, 0x68);
            int all = frame[1] + 6;
            if (frame.length != all) {
                throw new Fault(1, Math.min(frame.length, all));
            }
            expect(4, 0x08, 0x08);
            expect(6, 0x72, 0x72);
            expect(all - 1, 0x16, 0x16);
            end = all - 2;
            int sum = 0;
            for (int i = 4; i < end; i++) {
                sum = (sum + frame[i]) % 256;
            }
            if (sum != frame[end]) {
                throw new Fault(2, end);
            }
            for (int i = 7; i <= 10; i++) {
                if (!String.format("%02x", frame[i]).matches("[0-9]+")) {
                    throw new Fault(3, i);
                }
            }
        }

        private void expect(int i, int low, int high) {
            if (i >= frame.length || frame[i] < low || frame[i] > high) {
                throw new Fault(1, i);
            }
        }

        private int next() {
            if (at >= end) {
                throw new Fault(4, end);
            }
            return frame[at++];
        }

        private void item() {
            int start = at;
            int dif = next();
            if (dif == 0x1F && at < end) {
                throw new Fault(4, at);
            }
            if (dif == 0x1F || dif == 0x2F) {
                return;
            }
            String record;
            if (dif == 0x0F) {
                record = (end - at) + " 15 0 0 0 0 0" + letters(end - at);
            } else if (dif % 16 == 15) {
                throw new Fault(9, start);
            } else {
                record = ordinary(start, dif);
            }
            if (before + records.size() == 100) {
                throw new Fault(10, start);
            }
            records.add(record);
        }

        private String letters(int n) {
            StringBuilder all = new StringBuilder(n == 0 ? "" : " :");
            for (int b : take(n)) {
                all.append(' ').append(b);
            }
            return all.toString();
        }

        private int[] take(int n) {
            if (at + n > end) {
                throw new Fault(4, end);
            }
            int[] part = java.util.Arrays.copyOfRange(frame, at, at + n);
            at += n;
            return part;
        }

        private String ordinary(int start, int dif) {
            String storage = String.valueOf(dif / 64 % 2);
            String tariff = "0";
            String unit = "0";
            int last = dif;
            for (int i = 1; last >= 128; i++) {
                last = next();
                if (i == 11) {
                    throw new Fault(5, at - 1);
                }
                storage = lowBits(last % 16, 4) + storage;
                tariff = lowBits(last / 16 % 4, 2) + tariff;
                unit = lowBits(last / 64 % 2, 1) + unit;
            }
            int vifs = 0;
            StringBuilder row = new StringBuilder();
            do {
                last = next();
                vifs++;
                if (vifs == 12) {
                    throw new Fault(6, at - 1);
                }
                row.append(' ').append(last);
            } while (last >= 128);
            tariff = tariff.length() == 1 ? tariff : tariff.substring(0, tariff.length() - 1);
            unit = unit.length() == 1 ? unit : unit.substring(0, unit.length() - 1);
            String rest = " " + dif % 16 + " " + dif / 16 % 4 + " " + Long.parseLong(storage, 2) + " "
                    + Long.parseLong(tariff, 2) + " " + Long.parseLong(unit, 2) + " " + vifs + row;
            return value(start, dif % 16, rest);
        }

        private static String lowBits(int number, int n) {
            String all = "0000" + Integer.toBinaryString(number);
            return all.substring(all.length() - n);
        }

        private String value(int start, int code, String rest) {
            switch (code) {
                case 0: return 0 + rest;
                case 1: case 2: case 3: case 4: case 6: return number(code) + rest;
                case 5: return number(4) + rest;
                case 7: return number(8) + rest;
                case 9: case 10: case 11: case 12: return digits(code - 8, true) + rest;
                case 14: return digits(6, true) + rest;
                case 13: return sized(rest);
                default: throw new Fault(9, start);
            }
        }

        private String sized(String rest) {
            int v = next();
            if (v <= 0xBF) {
                return v + rest + letters(v);
            }
            if (v >= 0xC0 && v <= 0xC9) {
                return digits(v - 0xC0, false) + rest;
            }
            if (v >= 0xD0 && v <= 0xD9) {
                return digits(v - 0xD0, false).negate() + rest;
            }
            if (v >= 0xE0 && v <= 0xE8) {
                return number(v - 0xE0) + rest;
            }
            throw new Fault(8, at - 1);
        }

        private BigInteger number(int n) {
            int[] part = take(n);
            byte[] highestFirst = new byte[n];
            for (int i = 0; i < n; i++) {
                highestFirst[n - 1 - i] = (byte) part[i];
            }
            return n == 0 ? BigInteger.ZERO : new BigInteger(highestFirst);
        }

        private BigInteger digits(int n, boolean mayBeMinus) {
            int[] part = take(n);
            StringBuilder all = new StringBuilder("0");
            for (int i = n - 1; i >= 0; i--) {
                all.append(String.format("%02x", part[i]));
            }
            boolean minus = mayBeMinus && all.charAt(1) == 'f';
            if (minus) {
                all.setCharAt(1, '0');
            }
            for (int i = 0; i < n; i++) {
                int from = all.length() - 2 * i - 2;
                if (!all.substring(from, from + 2).matches("[0-9]+")) {
                    throw new Fault(7, at - n + i);
                }
            }
            BigInteger number = new BigInteger(all.toString());
            return minus ? number.negate() : number;
        }
    }
}
