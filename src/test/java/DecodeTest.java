/** Promises 13 (decode) and 14 (place): faults in their order, and that a fault changes nothing. */
public final class DecodeTest {
    public static void main(String[] args) {
        well();
        badFrames();
        badSumAndIdent();
        lackingBytes();
        tooManyExtensions();
        badDigits();
        badSizes();
        badDifs();
        specials();
        tooManyRecords();
        orderOfFaults();
        places();
        Check.end();
    }

    private static void well() {
        MeterBus x = new MeterBus();
        Check.due("no record", Check.decode(x, Check.answer()), 0);
        Check.due("one", Check.decode(x, Check.answer(0x01, 0x13, 0x05)), 1);
        Check.due("one more, from the same buffer", x.decode(), 2);
        Check.due("the buffer stays", Check.buffer(x), Check.text(Check.answer(0x01, 0x13, 0x05)));
        Check.due("two more", Check.decode(x, Check.answer(0x01, 0x13, 0x06, 0x01, 0x13, 0x07)), 4);
        Check.due("behind the list", x.record(3, 0), 7);
        Check.due("the first stays", x.record(0, 0), 5);
        Check.due("no frame was put on the bus", x.count(4), 0);
        Check.due("the longest frame", Check.decode(x, Check.answer(Check.repeat(237, 0x2F))), 4);
        Check.due("any A", Check.decode(x, Check.longFrame(0x08, 255, 0x72, new int[12])), 4);
        Check.due("any bytes behind the ident", Check.decode(x, Check.longFrame(0x08, 1, 0x72,
                0x99, 0x99, 0x99, 0x99, 255, 255, 255, 255, 255, 255, 255, 255)), 4);
    }

    private static void badFrames() {
        int[] good = Check.answer(0x01, 0x13, 0x05);
        int n = good.length;
        for (int i : new int[] {0, 2, 3, 4, 6, n - 1}) {
            int[] bad = good.clone();
            bad[i] ^= 1;
            Check.dueFault("byte " + i + " is another", 1, i, bad);
        }
        for (int i = 0; i < n; i++) {
            Check.dueFault(i + " bytes", 1, i, java.util.Arrays.copyOf(good, i));
        }
        Check.dueFault("a byte more", 1, n, Check.join(good, Check.bytes(0x16)));
        Check.dueFault("300 bytes", 1, n, java.util.Arrays.copyOf(good, 300));
        Check.dueFault("L 0E", 1, 1, Check.longFrame(0x08, 1, 0x72, new int[11]));
        Check.dueFault("L FD", 1, 1, Check.longFrame(0x08, 1, 0x72, new int[250]));
        Check.dueFault("L FF", 1, 1, 0x68, 0xFF, 0xFF);
        Check.dueFault("L FC, and no more", 1, 2, 0x68, 0xFC);
        Check.dueFault("a single one", 1, 0, 0xE5);
        Check.dueFault("a short one", 1, 0, Check.shortFrame(0x5B, 1));
        Check.dueFault("C 53", 1, 4, Check.longFrame(0x53, 1, 0x72, new int[12]));
        Check.dueFault("I 73", 1, 6, Check.longFrame(0x08, 1, 0x73, new int[12]));
    }

    private static void badSumAndIdent() {
        int[] good = Check.answer(0x01, 0x13, 0x05);
        int[] bad = good.clone();
        bad[good.length - 2] ^= 0x80;
        Check.dueFault("the sum", 2, good.length - 2, bad);
        bad = good.clone();
        bad[5] ^= 1;
        Check.dueFault("another A", 2, good.length - 2, bad);
        for (int i = 0; i < 4; i++) {
            for (int b : new int[] {0x0A, 0xA0, 0xF0, 0x0F, 0xFF}) {
                int[] data = new int[12];
                data[i] = b;
                data[3] = i == 3 ? b : 0xFF;
                Check.dueFault("a digit of the ident", 3, 7 + i, Check.longFrame(0x08, 1, 0x72, data));
            }
        }
    }

    /** By any A, so that any sum stands where the byte lacks. */
    private static void lacks(int... records) {
        for (int n = 1; n < records.length; n++) {
            int[] data = Check.join(new int[12], java.util.Arrays.copyOf(records, n));
            for (int a = 0; a < (n < 12 ? 256 : 1); a++) {
                Check.dueFault(Check.text(data) + "with A " + a, 4, 19 + n, Check.longFrame(0x08, a, 0x72, data));
            }
        }
        MeterBus x = new MeterBus();
        Check.due(Check.text(records), Check.decode(x, Check.answer(records)), 1);
    }

    private static void lackingBytes() {
        lacks(0x00, 0x13);
        lacks(0x80, 0x80, 0x00, 0x93, 0x80, 0x00);
        int[] sizes = {0, 1, 2, 3, 4, 4, 6, 8, -1, 1, 2, 3, 4, -1, 6};
        for (int code = 0; code < sizes.length; code++) {
            if (sizes[code] >= 0) {
                lacks(Check.join(Check.bytes(code, 0x13), Check.repeat(sizes[code], 0x12)));
            }
        }
        for (int v : new int[] {0x00, 0x01, 0x05, 0xC0, 0xC1, 0xC9, 0xD0, 0xD9, 0xE0, 0xE1, 0xE8}) {
            int size = v < 0xC0 ? v : v & 15;
            lacks(Check.join(Check.bytes(0x0D, 0x13, v), Check.repeat(size, 0x12)));
        }
        lacks(Check.join(Check.bytes(0x0D, 0x13, 0xBF), Check.repeat(0xBF, 0xFF)));
        Check.dueFault("4 comes before a digit", 4, 22, Check.answer(0x0A, 0x13, 0xAA));
        Check.dueFault("4 comes before a digit of a size", 4, 23, Check.answer(0x0D, 0x13, 0xC2, 0xAA));
        Check.dueFault("the sum is no value", 4, 21, Check.answer(0x01, 0x13));
    }

    private static void tooManyExtensions() {
        MeterBus x = new MeterBus();
        Check.due("10 DIFEs", Check.decode(x, Check.answer(Check.join(Check.repeat(10, 0x80),
                Check.bytes(0x00, 0x13)))), 1);
        Check.dueFault("11 DIFEs", 5, 30, Check.answer(Check.join(Check.repeat(11, 0x80), Check.bytes(0x00, 0x13))));
        Check.dueFault("11 DIFEs and no more", 5, 30, Check.answer(Check.repeat(12, 0x80)));
        Check.dueFault("10 DIFEs, and the 11th is not there", 4, 30, Check.answer(Check.repeat(11, 0x80)));
        Check.due("10 VIFEs", Check.decode(x, Check.answer(Check.join(Check.bytes(0x00), Check.repeat(10, 0x80),
                Check.bytes(0x13)))), 2);
        Check.due("VIF and VIFEs", x.record(1, 6), 11);
        Check.due("the last VIFE", x.record(1, 17), 0x13);
        Check.dueFault("11 VIFEs", 6, 31, Check.answer(Check.join(Check.bytes(0x00), Check.repeat(11, 0x80),
                Check.bytes(0x13))));
        Check.dueFault("11 VIFEs and no more", 6, 31,
                Check.answer(Check.join(Check.bytes(0x00), Check.repeat(12, 0x80))));
        Check.dueFault("10 VIFEs, and the 11th is not there", 4, 31,
                Check.answer(Check.join(Check.bytes(0x00), Check.repeat(11, 0x80))));
    }

    private static void badDigits() {
        int[] codes = {0x09, 0x0A, 0x0B, 0x0C, 0x0E};
        int[] sizes = {1, 2, 3, 4, 6};
        for (int c = 0; c < codes.length; c++) {
            for (int i = 0; i < sizes[c]; i++) {
                boolean last = i == sizes[c] - 1;
                for (int b : new int[] {0x0A, 0xA0, 0xE0, 0x0F, last ? 0xFA : 0xF0, 0xFF}) {
                    int[] bcd = Check.repeat(sizes[c], 0x12);
                    bcd[i] = b;
                    Check.dueFault("a digit", 7, 21 + i, Check.answer(Check.join(Check.bytes(codes[c], 0x13), bcd)));
                }
            }
        }
        Check.dueFault("the first of two", 7, 21, Check.answer(0x0A, 0x13, 0x0A, 0xA0));
        for (int v : new int[] {0xC2, 0xD2}) {
            Check.dueFault("no minus", 7, 23, Check.answer(0x0D, 0x13, v, 0x12, 0xF1));
            Check.dueFault("a digit", 7, 22, Check.answer(0x0D, 0x13, v, 0x1A, 0xF1));
        }
    }

    private static void badSizes() {
        for (int v = 0xC0; v < 0x100; v++) {
            boolean good = v <= 0xC9 || v >= 0xD0 && v <= 0xD9 || v >= 0xE0 && v <= 0xE8;
            if (!good) {
                Check.dueFault("size " + v, 8, 21, Check.answer(0x0D, 0x13, v));
                Check.dueFault("size " + v, 8, 21, Check.answer(Check.join(Check.bytes(0x0D, 0x13, v), new int[20])));
            }
        }
    }

    private static void badDifs() {
        for (int dif = 0x0F; dif < 0x100; dif += 0x10) {
            if (dif > 0x2F) {
                Check.dueFault("DIF " + dif, 9, 19, Check.answer(dif));
                Check.dueFault("DIF " + dif, 9, 20, Check.answer(0x2F, dif, 0x00, 0x13, 0x05));
            }
        }
        for (int dif = 0x08; dif < 0x80; dif += 0x10) {
            Check.dueFault("DIF " + dif, 9, 19, Check.answer(dif, 0x13));
            Check.dueFault("DIF " + dif, 9, 22, Check.answer(0x01, 0x13, 0x05, dif | 0x80, 0x00, 0x13, 0x05));
        }
    }

    private static void specials() {
        MeterBus x = new MeterBus();
        Check.due("fillers", Check.decode(x, Check.answer(0x2F, 0x01, 0x13, 0x05, 0x2F, 0x2F, 0x00, 0x13, 0x2F)), 2);
        Check.due("more", Check.decode(x, Check.answer(0x01, 0x13, 0x05, 0x1F)), 3);
        Check.dueFault("a byte behind more", 4, 23, Check.answer(0x01, 0x13, 0x05, 0x1F, 0x2F));
        Check.dueFault("bytes behind more", 4, 20, Check.answer(0x1F, 0x1F, 0x01, 0x13, 0x05));
        Check.due("the maker's, none", Check.decode(x, Check.answer(0x0F)), 4);
        Check.due("the maker's", Check.decode(x, Check.answer(0x01, 0x13, 0x05, 0x0F, 0x0F, 0x1F, 0xFF)), 6);
        Check.due("records", Check.record(x, 5), "3 15 0 0 0 0 0 : 15 31 255");
        Check.due("none of them", Check.record(x, 3), "0 15 0 0 0 0 0");
    }

    private static void tooManyRecords() {
        MeterBus x = new MeterBus();
        int[] hundred = Check.answer(Check.repeat(100, 0x00, 0x13));
        Check.due("100 records", Check.decode(x, hundred), 100);
        Check.due("fillers and more behind 100", Check.decode(x, Check.answer(0x2F, 0x1F)), 100);
        Check.due("the 101st", Check.decode(x, Check.answer(0x2F, 0x00, 0x13)), -10);
        Check.due("its place", x.place(), 20);
        Check.due("the list stays", x.count(3), 100);
        Check.due("the maker's as the 101st", Check.decode(x, Check.answer(0x0F, 0x01)), -10);
        Check.due("its place", x.place(), 19);
        x.clear();
        Check.due("101 in one frame", Check.decode(x, Check.answer(Check.repeat(101, 0x00, 0x13))), -10);
        Check.due("the place", x.place(), 219);
        Check.due("the list stays empty", x.count(3), 0);
        Check.due("98", Check.decode(x, Check.answer(Check.repeat(98, 0x00, 0x13))), 98);
        Check.due("3 more", Check.decode(x, Check.answer(1, 2, 3, 1, 2, 4, 1, 2, 5)), -10);
        Check.due("the place of the third", x.place(), 25);
        Check.due("the list stays", x.count(3), 98);
        Check.due("2 more", Check.decode(x, Check.answer(1, 2, 3, 1, 2, 4)), 100);
        Check.due("the last", x.record(99, 0), 4);
    }

    private static void orderOfFaults() {
        int[] all = Check.answer(0x08, 0x13);
        all[7] = 0xAA;
        Check.dueFault("sum before ident", 2, all.length - 2, all);
        all[all.length - 1] = 0;
        Check.dueFault("stop before sum", 1, all.length - 1, all);
        all[6] = 0;
        Check.dueFault("I before stop", 1, 6, all);
        all[4] = 0;
        Check.dueFault("C before I", 1, 4, all);
        Check.dueFault("n before C", 1, all.length - 1, java.util.Arrays.copyOf(all, all.length - 1));
        Check.dueFault("n before C", 1, all.length, java.util.Arrays.copyOf(all, all.length + 1));
        all[3] = 0;
        Check.dueFault("3 before n", 1, 3, java.util.Arrays.copyOf(all, all.length - 1));
        all[2] = 0;
        Check.dueFault("2 before 3", 1, 2, all);
        all[1] = 0;
        Check.dueFault("1 before 2", 1, 1, all);
        all[0] = 0;
        Check.dueFault("0 before 1", 1, 0, all);
        Check.dueFault("a VIF that lacks before CODE 8", 4, 20, Check.answer(0x08));
        Check.dueFault("an earlier record", 7, 21, Check.answer(0x09, 0x13, 0xAA, 0x08, 0x13));
        Check.dueFault("ident before records", 3, 7, Check.longFrame(0x08, 1, 0x72, 0xAA, 0, 0, 0, 0, 0, 0, 0, 0, 0, 0, 0, 8));
        MeterBus x = new MeterBus();
        Check.decode(x, Check.answer(Check.repeat(100, 0x00, 0x13)));
        Check.due("a wrong 101st", Check.decode(x, Check.answer(0x09, 0x13, 0xAA)), -7);
        Check.due("a right 101st before a wrong one", Check.decode(x, Check.answer(0x00, 0x13, 0x08, 0x13)), -10);
    }

    private static void places() {
        MeterBus x = new MeterBus();
        Check.due("place at first", x.place(), MeterBus.NONE);
        Check.decode(x, Check.answer(0x08, 0x13));
        Check.due("place of a fault", x.place(), 19);
        x.clear();
        x.search();
        x.send();
        x.keep(0);
        Check.dueThrow("readOut(0)", x, Check.INDEX, () -> x.readOut(0));
        Check.due("it stays", x.place(), 19);
        Check.due("an empty buffer", x.decode(), -1);
        Check.due("its place", x.place(), 0);
        Check.decode(x, Check.answer());
        Check.due("place without a fault", x.place(), MeterBus.NONE);
    }
}
