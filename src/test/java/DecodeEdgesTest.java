import java.math.BigInteger;
import java.util.Arrays;

/** The edges that "4 TO DECODE" names, and those of promises 13 to 17; a comment tells the sentence. */
public final class DecodeEdgesTest {
    private static final int[] SIZES = {0, 1, 2, 3, 4, 4, 6, 8, -1, 1, 2, 3, 4, -1, 6};

    public static void main(String[] args) {
        bytesOfTheFrame();
        lengths();
        numberOfBytes();
        bytesThatWereThere();
        sums();
        identDigits();
        endOfRecords();
        difBits();
        difeBits();
        difes();
        vifes();
        numbers();
        bits();
        digits();
        wrongDigits();
        sizes();
        longDigits();
        makersBytes();
        more();
        fillers();
        otherDifs();
        hundred();
        listStays();
        Check.end();
    }

    private static MeterBus read(String what, int due, int... items) {
        MeterBus x = new MeterBus();
        Check.due(what, Check.decode(x, Check.answer(items)), due);
        Check.due(what + ": place", x.place(), MeterBus.NONE);
        return x;
    }

    private static void fault(String what, int fault, int place, int... items) {
        Check.dueFault(what, fault, place, Check.answer(items));
    }

    private static int[] with(int[] row, int i, int b) {
        int[] other = row.clone();
        other[i] = b;
        return other;
    }

    /** "1, at the first byte that is not so: 0: 68; 1: .. L; 2: L; 3: 68; 4: 08; 6: 72; L + 5: 16": all other values. */
    private static void bytesOfTheFrame() {
        int[] good = Check.answer(0x01, 0x13, 0x05);
        for (int i : new int[] {0, 1, 2, 3, 4, 6, good.length - 1}) {
            for (int b = 0; b < 256; b++) {
                if (b != good[i]) {
                    boolean anotherLength = i == 1 && b >= 0x0F && b <= 0xFC;
                    Check.dueFault("byte " + i + " is " + b, 1, anotherLength ? 2 : i, with(good, i, b));
                }
            }
        }
        for (int a = 0; a < 256; a++) {
            MeterBus x = new MeterBus();
            Check.due("any A", Check.decode(x, Check.longFrame(0x08, a, 0x72, new int[12])), 0);
        }
    }

    /** "1: 0F .. FC, this is L": the whole frame is right but for it. */
    private static void lengths() {
        for (int length = 3; length < 256; length++) {
            int[] frame = Check.longFrame(0x08, 1, 0x72, Arrays.copyOf(Check.join(new int[12],
                    Check.repeat(255, 0x2F)), length - 3));
            if (length < 0x0F || length > 0xFC) {
                Check.dueFault("L " + length, 1, 1, frame);
            } else {
                Check.due("L " + length, Check.decode(new MeterBus(), frame), 0);
            }
        }
    }

    /** "(n, if it is not there)"; "n is L + 6 (at n, if it is less, else at L + 6)". */
    private static void numberOfBytes() {
        for (int[] good : new int[][] {Check.answer(), Check.answer(0x01, 0x13, 0x05), Check.answer(Check.repeat(237, 0x2F))}) {
            for (int n = 0; n <= 300; n++) {
                if (n != good.length) {
                    Check.dueFault(n + " bytes for " + good.length, 1, Math.min(n, good.length), Arrays.copyOf(good, n));
                }
            }
            Check.due("all bytes", Check.decode(new MeterBus(), good), good.length == 24 ? 1 : 0);
        }
    }

    /** "(n, if it is not there)": bytes that were there before, right or wrong, do not count. */
    private static void bytesThatWereThere() {
        int[] good = Check.answer(0x01, 0x13, 0x05);
        for (int n = 0; n < good.length; n++) {
            for (int b : new int[] {0x00, 0x0F, 0x12, 0x68, 0xFF}) {
                MeterBus x = new MeterBus();
                Check.fill(x, Check.join(Arrays.copyOf(good, n), Check.repeat(40, b)));
                x.keep(n);
                Check.due(n + " bytes, then " + b, x.decode(), -1);
                Check.due(n + " bytes, then " + b + ": place", x.place(), n);
            }
        }
        for (int i = 0; i < 4; i++) {
            MeterBus x = new MeterBus();
            Check.fill(x, with(good, i, 0));
            x.keep(i);
            Check.due("a wrong byte " + i + " that is not kept", x.decode(), -1);
            Check.due("a wrong byte " + i + " that is not kept: place", x.place(), i);
            x.keep(0);
            Check.due("none is kept", x.decode(), -1);
            Check.due("none is kept: place", x.place(), 0);
        }
    }

    /** "2, at L + 4: the sum is another one." */
    private static void sums() {
        for (int[] good : new int[][] {Check.answer(), Check.answer(0x01, 0x13, 0x05), Check.answer(Check.repeat(237, 0x2F))}) {
            int at = good.length - 2;
            for (int b = 0; b < 256; b++) {
                if (b != good[at]) {
                    Check.dueFault("the sum is " + b, 2, at, with(good, at, b));
                }
            }
            Check.dueFault("another A", 2, at, with(good, 5, good[5] + 1));
            Check.dueFault("another last byte before it", 2, at, with(good, at - 1, good[at - 1] + 1));
        }
    }

    /** "3, at one of bytes 7 .. 10: a digit above 9": all values of each byte; behind them all are well. */
    private static void identDigits() {
        for (int i = 0; i < 12; i++) {
            for (int b = 0; b < 256; b++) {
                int[] frame = Check.longFrame(0x08, 1, 0x72, with(new int[12], i, b));
                if (i < 4 && (b % 16 > 9 || b / 16 > 9)) {
                    Check.dueFault("byte " + (7 + i) + " is " + b, 3, 7 + i, frame);
                } else {
                    Check.due("byte " + (7 + i) + " is " + b, Check.decode(new MeterBus(), frame), 0);
                }
            }
        }
        int[] all = Check.repeat(12, 0xAA);
        for (int i = 0; i < 4; i++) {
            Check.dueFault("the first of them", 3, 7 + i, Check.longFrame(0x08, 1, 0x72, all));
            all[i] = 0x99;
        }
    }

    /** "up to L + 4 (END) .. a byte that lacks is 4, at END": each code with all its bytes, and with fewer. */
    private static void endOfRecords() {
        for (int code = 0; code < 15; code++) {
            if (SIZES[code] >= 0) {
                endOf(Check.join(Check.bytes(code, 0x13), Check.repeat(SIZES[code], 0x12)));
                endOf(Check.join(Check.bytes(code | 0x80, 0x80, 0x00, 0x93, 0x00), Check.repeat(SIZES[code], 0x12)));
            }
        }
        endOf(Check.bytes(0x0D, 0x13, 0x00));
        endOf(Check.bytes(0x0D, 0x13, 0x01, 0xFF));
    }

    private static void endOf(int... item) {
        read("all bytes", 1, item);
        read("all bytes and a filler", 1, Check.join(item, Check.bytes(0x2F)));
        read("twice", 2, Check.join(item, item));
        for (int n = 1; n < item.length; n++) {
            fault(n + " bytes of " + Check.text(item), 4, 19 + n, Arrays.copyOf(item, n));
            fault(n + " bytes behind a record", 4, 19 + item.length + n, Check.join(item, Arrays.copyOf(item, n)));
        }
    }

    /** "DIF: bits 0 .. 3 the CODE, 4, 5 the FUNCTION, 6 the lowest bit of the STORAGE". */
    private static void difBits() {
        for (int dif = 0; dif < 0x80; dif++) {
            int code = dif % 16;
            if (code < 15 && SIZES[code] >= 0) {
                MeterBus x = read("DIF " + dif, 1, Check.join(Check.bytes(dif, 0x13), Check.repeat(SIZES[code], 0x00)));
                Check.due("DIF " + dif, Check.record(x, 0), "0 " + code + " " + dif / 16 % 4 + " " + dif / 64 + " 0 0 1 19");
            }
        }
    }

    /** "a DIFE follows: bits 0 .. 3 the next four bits of the storage, 4, 5 .. of the TARIFF .., 6 .. of the UNIT". */
    private static void difeBits() {
        for (int i = 0; i < 10; i++) {
            for (int bit = 0; bit < 7; bit++) {
                int[] item = Check.join(Check.repeat(10, 0x80), Check.bytes(0x00, 0x13));
                item[1 + i] |= 1 << bit;
                long storage = bit < 4 ? 1L << 1 + 4 * i + bit : 0;
                long tariff = bit == 4 || bit == 5 ? 1L << 2 * i + bit - 4 : 0;
                long unit = bit == 6 ? 1L << i : 0;
                MeterBus x = read("DIFE " + i + ", bit " + bit, 1, item);
                Check.due("DIFE " + i + ", bit " + bit, Check.record(x, 0),
                        "0 0 0 " + storage + " " + tariff + " " + unit + " 1 19");
            }
        }
    }

    /** "bit 7: another one; 5 at the 11th." */
    private static void difes() {
        for (int n = 0; n <= 13; n++) {
            int[] item = Check.join(Check.repeat(n, 0x80), Check.bytes(0x00, 0x13));
            if (n <= 10) {
                read(n + " DIFEs", 1, item);
            } else {
                fault(n + " DIFEs", 5, 19 + 11, item);
            }
        }
        fault("the 11th is the last byte", 5, 30, Check.join(Check.repeat(11, 0x80), Check.bytes(0x00)));
        fault("the 11th behind a record", 5, 33, Check.join(Check.bytes(0x01, 0x13, 0x05), Check.repeat(12, 0x81)));
        fault("the 11th lacks", 4, 30, Check.repeat(11, 0x80));
    }

    /** "Then VIF, by bit 7 VIFEs, likewise; 6 at the 11th." */
    private static void vifes() {
        for (int n = 0; n <= 13; n++) {
            int[] vifs = Check.join(Check.repeat(n, 0xFD), Check.bytes(0x7C));
            int[] item = Check.join(Check.bytes(0x01), vifs, Check.bytes(0x05));
            if (n > 10) {
                fault(n + " VIFEs", 6, 19 + 12, item);
                continue;
            }
            MeterBus x = read(n + " VIFEs", 1, item);
            Check.due(n + " VIFEs: bytes", x.record(0, 6), n + 1);
            for (int j = 0; j <= n; j++) {
                Check.due(n + " VIFEs: byte " + j, x.record(0, 7 + j), vifs[j]);
            }
            int none = 8 + n;
            Check.dueThrow(n + " VIFEs: a byte behind", x, Check.INDEX, () -> x.record(0, none));
            Check.due(n + " VIFEs: the value", x.record(0, 0), 5);
        }
        fault("the 11th is the last byte", 6, 31, Check.join(Check.bytes(0x00), Check.repeat(11, 0x80), Check.bytes(0x00)));
        fault("the 11th lacks", 4, 31, Check.join(Check.bytes(0x00), Check.repeat(11, 0x80)));
    }

    private static int[] lowestFirst(BigInteger number, int size) {
        int[] row = new int[size];
        for (int i = 0; i < size; i++) {
            row[i] = number.shiftRight(8 * i).intValue() & 255;
        }
        return row;
    }

    /** "1, 2, 3, 4, 6, 7: 1, 2, 3, 4, 6, 8 bytes, a number with sign"; "E0 .. E8: V less E0 bytes". */
    private static void numbers() {
        for (int size = 1; size <= 8; size++) {
            BigInteger half = BigInteger.ONE.shiftLeft(8 * size - 1);
            BigInteger[] values = {BigInteger.ZERO, BigInteger.ONE, half.subtract(BigInteger.ONE), half.negate(),
                half.negate().add(BigInteger.ONE), BigInteger.ONE.negate(), half.shiftRight(1), half.shiftRight(4).negate()};
            for (BigInteger value : values) {
                int[] bytes = lowestFirst(value, size);
                number(value.longValueExact(), Check.join(Check.bytes(0x0D, 0x13, 0xE0 + size), bytes));
                for (int code = 1; code <= 7; code++) {
                    if (SIZES[code] == size && code != 5) {
                        number(value.longValueExact(), Check.join(Check.bytes(code, 0x13), bytes));
                    }
                }
            }
        }
        number(0, 0x0D, 0x13, 0xE0);
        number(0, 0x00, 0x13);
    }

    private static void number(long due, int... item) {
        MeterBus x = read(Check.text(item), 2, Check.join(item, Check.bytes(0x01, 0x14, 0x77)));
        Check.due(Check.text(item), Check.record(x, 0), due + " " + item[0] % 16 + " 0 0 0 0 1 19");
        Check.due("behind " + Check.text(item), Check.record(x, 1), "119 1 0 0 0 0 1 20");
        Check.dueThrow("a number has no text", x, Check.INDEX, () -> x.text(0, 0));
    }

    /** "5: four bytes, their bits, as an int." */
    private static void bits() {
        for (int value : new int[] {0, 1, -1, Integer.MAX_VALUE, Integer.MIN_VALUE, Float.floatToIntBits(Float.NaN),
            Float.floatToIntBits(-0.0f), Float.floatToIntBits(3.25f)}) {
            number(value, Check.join(Check.bytes(0x05, 0x13), lowestFirst(BigInteger.valueOf(value), 4)));
        }
    }

    private static int[] bcd(String digits) {
        int[] row = new int[digits.length() / 2];
        for (int i = 0; i < row.length; i++) {
            int from = digits.length() - 2 * i - 2;
            row[i] = Integer.parseInt(digits.substring(from, from + 2), 16);
        }
        return row;
    }

    /** "9, A, B, C, E: .. bytes of BCD; the highest four bits may be F: a minus (a 0 stands there then)". */
    private static void digits() {
        for (int code : new int[] {9, 10, 11, 12, 14}) {
            int n = 2 * SIZES[code];
            String nines = "9".repeat(n);
            number(0, Check.join(Check.bytes(code, 0x13), bcd("0".repeat(n))));
            number(Long.parseLong(nines), Check.join(Check.bytes(code, 0x13), bcd(nines)));
            number(0, Check.join(Check.bytes(code, 0x13), bcd("F" + "0".repeat(n - 1))));
            number(-Long.parseLong(nines.substring(1)), Check.join(Check.bytes(code, 0x13), bcd("F" + nines.substring(1))));
            for (int i = 0; i < n; i++) {
                String one = "0".repeat(i) + (i % 9 + 1) + "0".repeat(n - 1 - i);
                number(Long.parseLong(one), Check.join(Check.bytes(code, 0x13), bcd(one)));
                if (i > 0) {
                    number(-Long.parseLong(one), Check.join(Check.bytes(code, 0x13), bcd("F" + one.substring(1))));
                }
            }
        }
    }

    /** "else 7 at the byte (the first of these that is wrong)": each digit, each value above 9. */
    private static void wrongDigits() {
        for (int code : new int[] {9, 10, 11, 12, 14}) {
            int n = 2 * SIZES[code];
            for (int i = 0; i < n; i++) {
                for (int digit = 10; digit < 16; digit++) {
                    String one = "1".repeat(i) + Integer.toHexString(digit) + "1".repeat(n - 1 - i);
                    if (i > 0 || digit < 15) {
                        fault("digit " + one, 7, 21 + (n - 1 - i) / 2, Check.join(Check.bytes(code, 0x13), bcd(one)));
                    }
                    String two = "A" + one.substring(1);
                    fault("digits " + two, 7, 21 + (i == 0 ? n / 2 - 1 : (n - 1 - i) / 2),
                            Check.join(Check.bytes(code, 0x13), bcd(two)));
                }
            }
            fault("it lacks, and is wrong", 4, 21 + n / 2 - 1,
                    Check.join(Check.bytes(code, 0x13), Check.repeat(n / 2 - 1, 0xAA)));
        }
    }

    /** "D: a byte V: 00 .. BF: V bytes of TEXT, the value is V; C0 .. C9 ..; D0 .. D9 ..; E0 .. E8 ..; else 8, at V." */
    private static void sizes() {
        for (int v = 0; v < 256; v++) {
            boolean text = v <= 0xBF;
            boolean good = text || v <= 0xC9 || v >= 0xD0 && v <= 0xD9 || v >= 0xE0 && v <= 0xE8;
            int[] item = Check.join(Check.bytes(0x0D, 0x13, v), Check.repeat(text ? v : v % 16, 0x11));
            if (!good) {
                fault("V " + v, 8, 21, item);
                fault("V " + v + ", the last byte", 8, 21, 0x0D, 0x13, v);
                continue;
            }
            MeterBus x = read("V " + v, 2, Check.join(item, Check.bytes(0x01, 0x14, 0x77)));
            Check.due("V " + v + ": behind it", x.record(1, 0), 0x77);
            if (text) {
                Check.due("V " + v + ": the value", x.record(0, 0), v);
            }
            int letters = text ? v : 0;
            Check.dueThrow("V " + v + ": behind the text", x, Check.INDEX, () -> x.text(0, letters));
            if (letters > 0) {
                Check.due("V " + v + ": the last of the text", x.text(0, letters - 1), 0x11);
                Check.dueThrow("V " + v + ": before the text", x, Check.INDEX, () -> x.text(0, -1));
            }
            for (int less = 1; less < item.length && less < 4; less++) {
                fault("V " + v + ", " + less + " less", 4, 19 + item.length - less, Arrays.copyOf(item, item.length - less));
            }
        }
    }

    /** "V less C0 bytes of BCD, without minus (none: 0)"; "likewise, less than 0"; "BCD of 10 digits and more". */
    private static void longDigits() {
        for (int size = 0; size <= 9; size++) {
            String nines = "9".repeat(2 * size);
            long due = size == 0 ? 0 : Long.parseLong(nines);
            number(due, Check.join(Check.bytes(0x0D, 0x13, 0xC0 + size), bcd(nines)));
            number(-due, Check.join(Check.bytes(0x0D, 0x13, 0xD0 + size), bcd(nines)));
            for (int i = 0; i < 2 * size; i++) {
                String one = "0".repeat(i) + (i % 9 + 1) + "0".repeat(2 * size - 1 - i);
                number(Long.parseLong(one), Check.join(Check.bytes(0x0D, 0x13, 0xC0 + size), bcd(one)));
                number(-Long.parseLong(one), Check.join(Check.bytes(0x0D, 0x13, 0xD0 + size), bcd(one)));
                for (String digit : new String[] {"A", "F"}) {
                    int[] wrong = bcd(one.substring(0, i) + digit + one.substring(i + 1));
                    for (int v : new int[] {0xC0, 0xD0}) {
                        fault("no minus", 7, 22 + (2 * size - 1 - i) / 2, Check.join(Check.bytes(0x0D, 0x13, v + size), wrong));
                    }
                }
            }
        }
    }

    /** "0F: all bytes up to END are the maker's, that is the last record (CODE 15, function 0, no VIF ..)". */
    private static void makersBytes() {
        for (int n = 0; n <= 236; n++) {
            int[] bytes = new int[n];
            for (int j = 0; j < n; j++) {
                bytes[j] = 255 - j;
            }
            MeterBus x = read(n + " of the maker's", 1, Check.join(Check.bytes(0x0F), bytes));
            StringBuilder due = new StringBuilder(n + " 15 0 0 0 0 0");
            for (int j = 0; j < n; j++) {
                due.append(j == 0 ? " : " : " ").append(bytes[j]);
            }
            Check.due(n + " of the maker's", Check.record(x, 0), due.toString());
            int letters = n;
            Check.dueThrow("behind them", x, Check.INDEX, () -> x.text(0, letters));
            Check.dueThrow("no VIF", x, Check.INDEX, () -> x.record(0, 7));
        }
        read("the last record, whatever comes", 2, 0x01, 0x13, 0x05, 0x0F, 0x01, 0x13, 0x08, 0x13, 0x3F, 0x0D);
    }

    /** "1F: there is MORE, and nothing may follow (4, at the byte behind; it is no record)". */
    private static void more() {
        read("1F alone", 0, 0x1F);
        MeterBus x = read("1F at the end", 1, 0x01, 0x13, 0x05, 0x1F);
        Check.due("it is no record", x.count(3), 1);
        for (int b = 0; b < 256; b++) {
            fault("behind 1F: " + b, 4, 20, 0x1F, b);
            fault("behind a record and 1F: " + b, 4, 23, 0x01, 0x13, 0x05, 0x1F, b, 0x00);
        }
        read("1F as a value", 1, 0x01, 0x13, 0x1F);
        read("1F as a VIF", 1, 0x00, 0x1F);
        int[] long1 = Check.join(Check.repeat(236, 0x2F), Check.bytes(0x1F));
        read("1F as the last byte of the longest", 0, long1);
        fault("1F as the last but one", 4, 255, Check.join(Check.repeat(235, 0x2F), Check.bytes(0x1F, 0x2F)));
    }

    /** "2F: nothing (a filler)". */
    private static void fillers() {
        for (int n = 0; n <= 237; n++) {
            MeterBus x = read(n + " fillers", 0, Check.repeat(n, 0x2F));
            Check.due("no record", x.count(3), 0);
        }
        MeterBus x = read("between records", 3, 0x2F, 0x01, 0x13, 0x2F, 0x2F, 0x2F, 0x00, 0x2F, 0x01, 0x2F, 0x03, 0x2F);
        Check.due("records", Check.records(x), "47 1 0 0 0 0 1 19; 0 0 0 0 0 0 1 47; 3 1 0 0 0 0 1 47; ");
    }

    /** "8: 9, at the DIF."; "F: .. else 9, at the DIF": the DIFE, VIF and what is behind do not matter. */
    private static void otherDifs() {
        for (int dif = 0; dif < 256; dif++) {
            boolean special = dif % 16 == 15 && dif != 0x0F && dif != 0x1F && dif != 0x2F;
            if (special) {
                fault("DIF " + dif + " alone", 9, 19, dif);
            }
            if (special || dif % 16 == 8) {
                fault("DIF " + dif, 9, 19, dif, 0x13, 0x13, 0x13);
                fault("DIF " + dif + " behind a filler", 9, 20, 0x2F, dif, 0x13, 0x13, 0x13);
                fault("DIF " + dif + " behind a record", 9, 22, 0x01, 0x13, 0x05, dif, 0x13, 0x13);
            }
        }
    }

    /** "100 at most"; "10, at the DIF: a 101st record." */
    private static void hundred() {
        for (int before = 97; before <= 100; before++) {
            for (int n = 0; n <= 4; n++) {
                MeterBus x = read(before + " records", before, Check.repeat(before, 0x00, 0x13));
                int due = before + n <= 100 ? before + n : -10;
                String what = before + " and " + n;
                Check.due(what, Check.decode(x, Check.answer(Check.join(Check.bytes(0x2F), Check.repeat(n, 0x01, 0x13, 0x05)))), due);
                Check.due(what + ": place", x.place(), due > 0 ? MeterBus.NONE : 20 + 3 * (100 - before));
                Check.due(what + ": records", x.count(3), due > 0 ? due : before);
            }
        }
        for (int n : new int[] {99, 100}) {
            read(n + " in one frame", n, Check.repeat(n, 0x00, 0x13));
        }
        for (int n = 101; n <= 118; n++) {
            Check.dueFault(n + " in one frame, behind one", 10, 19 + 2 * 99, Check.answer(Check.repeat(n, 0x00, 0x13)));
        }
        MeterBus full = read("100 records", 100, Check.repeat(100, 0x00, 0x13));
        Check.due("1F behind 100", Check.decode(full, Check.answer(0x1F)), 100);
        Check.due("a filler behind 100", Check.decode(full, Check.answer(0x2F)), 100);
        Check.due("no byte behind 100", Check.decode(full, Check.answer()), 100);
        Check.due("the maker's behind 100", Check.decode(full, Check.answer(0x2F, 0x0F)), -10);
        Check.due("its place", full.place(), 20);
        Check.due("the last of 100", full.record(99, 7), 0x13);
        Check.dueThrow("a 101st", full, Check.INDEX, () -> full.record(100, 0));
        Check.due("clear", full.clear(), 100);
        Check.due("100 again", Check.decode(full, Check.answer(Check.repeat(100, 0x00, 0x14))), 100);
    }

    /** "or it has a FAULT .., and the list is as it was": also those that were read before the fault are gone. */
    private static void listStays() {
        int[][] wrong = {{0x01, 0x13}, Check.repeat(12, 0x80), Check.join(Check.bytes(0x00), Check.repeat(12, 0x80)),
            {0x0D, 0x13, 0x02, 0x41}, {0x09, 0x13, 0xAA}, {0x0D, 0x13, 0xFF}, {0x08, 0x13}, {0xFF}, {0x1F, 0x1F}};
        for (int[] item : wrong) {
            MeterBus x = read("before", 2, 0x0D, 0x13, 0x02, 0x41, 0x42, 0x04, 0x14, 1, 2, 3, 4);
            String before = Check.records(x);
            int[] well = {0x0D, 0x13, 0x03, 0x51, 0x52, 0x53, 0xC2, 0x33, 0x93, 0x14, 7, 8};
            Check.due("a fault", Check.bit(Check.decode(x, Check.answer(Check.join(well, item))) < 0), 1);
            Check.due("the list", Check.records(x), before);
            Check.due("behind it", Check.decode(x, Check.answer(0x00, 0x13)), 3);
            Check.due("the list", Check.records(x), before + "0 0 0 0 0 0 1 19; ");
            Check.due("clear", x.clear(), 3);
            Check.due("clear again", x.clear(), 0);
        }
    }
}
