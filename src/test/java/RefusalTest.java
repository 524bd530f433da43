import java.util.function.Consumer;
import java.util.function.Supplier;

/**
 * Every call that is refused: it throws what the document names, the one named first when several would do, and
 * nothing has changed behind it, also what only a meter's later answers tell. The nearest call that is not refused
 * stands beside it.
 */
public final class RefusalTest {
    private static final int LOW = Integer.MIN_VALUE, HIGH = Integer.MAX_VALUE;
    private static final int BYTES = 5;

    public static void main(String[] args) {
        type();
        keep();
        typed();
        meterNumber();
        meterPrimary();
        meterDigits();
        meterBytes();
        meterTwice();
        meterOrder();
        remove();
        page();
        pageOrder();
        state();
        found();
        readOut();
        record();
        text();
        count();
        Check.end();
    }

    /** Meters 0, 5 and 11 with pages, bits and a selected one; three found; four records; a fault; five bytes. */
    private static MeterBus rich() {
        MeterBus x = new MeterBus();
        x.meter(0, 0, 0x00000000, 0x0000, 0, 0);
        x.meter(5, 7, 0x12345678, 0x0203, 4, 5);
        x.meter(11, 250, 0x99999999, 0xFEFE, 254, 254);
        for (int i = 0; i < 3; i++) {
            Check.fill(x, 0x01, 0x13, 0x50 + i);
            x.page(5, i);
        }
        Check.fill(x, Check.repeat(60, 0x2F));
        x.page(11, 1);
        Check.due("search", x.search(), 3);
        Check.send(x, Check.shortFrame(0x7B, 7));
        Check.send(x, Check.shortFrame(0x5B, 250));
        Check.due("records", Check.decode(x, Check.answer(0x02, 0x93, 0x14, 0x06, 0xFF,
                0x0D, 0x13, 0x02, 0x41, 0x42, 0x0D, 0x13, 0xC1, 0x12, 0x0F, 0x09, 0x1F)), 4);
        Check.due("a fault", Check.decode(x, Check.answer(0x2F, 0x08, 0x13)), -9);
        x.keep(BYTES);
        return x;
    }

    private static MeterBus full() {
        MeterBus x = rich();
        Check.fill(x, Check.repeat(300, 0xA5));
        return x;
    }

    private static MeterBus withBytes(int n) {
        MeterBus x = rich();
        Check.fill(x, Check.repeat(n, 0x2F));
        return x;
    }

    private static void refused(String what, Supplier<MeterBus> made, Class<? extends RuntimeException> due,
            Consumer<MeterBus> call) {
        MeterBus x = made.get();
        Check.dueThrow(what, x, due, () -> call.accept(x));
        Check.due(what + ": what is told behind it", Check.told(x), Check.told(made.get()));
    }

    private static void refused(String what, Class<? extends RuntimeException> due, Consumer<MeterBus> call) {
        refused(what, RefusalTest::rich, due, call);
    }

    private static void type() {
        for (int n : new int[] {LOW, -8, -1, 0, 9, 10, 256, 257, HIGH}) {
            refused("type " + n + " bytes", Check.ARGUMENT, x -> x.type(1, n));
            refused("type " + n + " bytes when it is full", RefusalTest::full, Check.ARGUMENT, x -> x.type(1, n));
        }
        Check.due("type 1 byte", rich().type(1, 1), BYTES + 1);
        Check.due("type 8 bytes", rich().type(1, 8), BYTES + 8);
        for (int n = 1; n <= 8; n++) {
            int bytes = n;
            refused("type " + n + " when it is full", RefusalTest::full, Check.UNSUPPORTED, x -> x.type(-1, bytes));
            refused("type " + n + " up to 301", () -> withBytes(301 - bytes), Check.UNSUPPORTED,
                    x -> x.type(-1, bytes));
            Check.due("type " + n + " up to 300", withBytes(300 - n).type(-1, n), 300);
        }
    }

    private static void keep() {
        for (int n : new int[] {LOW, -1, BYTES + 1, 300, 301, HIGH}) {
            refused("keep " + n, Check.ARGUMENT, x -> x.keep(n));
        }
        refused("keep 1 of none", MeterBus::new, Check.ARGUMENT, x -> x.keep(1));
        refused("keep 301 of 300", RefusalTest::full, Check.ARGUMENT, x -> x.keep(301));
        for (int n : new int[] {0, 1, BYTES - 1, BYTES}) {
            MeterBus x = rich();
            x.keep(n);
            Check.due("keep " + n, x.count(1), n);
        }
        MeterBus none = new MeterBus();
        none.keep(0);
        Check.due("keep 0 of none", none.count(1), 0);
        MeterBus full = full();
        full.keep(300);
        Check.due("keep 300 of 300", full.count(1), 300);
    }

    private static void typed() {
        for (int i : new int[] {LOW, -1, BYTES, 299, 300, HIGH}) {
            refused("typed(" + i + ")", Check.INDEX, x -> x.typed(i));
        }
        refused("typed(0) of none", MeterBus::new, Check.INDEX, x -> x.typed(0));
        refused("typed(300) of 300", RefusalTest::full, Check.INDEX, x -> x.typed(300));
        Check.due("typed(0)", rich().typed(0), 0x68);
        Check.due("typed, the last", rich().typed(BYTES - 1), 0x08);
        Check.due("typed(299) of 300", full().typed(299), 0xA5);
    }

    private static void meterNumber() {
        for (int k : new int[] {LOW, -1, 12, 13, HIGH}) {
            refused("meter " + k, Check.INDEX, x -> x.meter(k, 1, 1, 1, 1, 1));
        }
        for (int k = 0; k < 12; k++) {
            MeterBus x = new MeterBus();
            x.meter(k, 1, 1, 1, 1, 1);
            Check.due("meter " + k, x.state(k, 0), 1);
        }
    }

    private static void meterPrimary() {
        for (int primary : new int[] {LOW, -1, 251, 252, 253, 254, 255, 256, HIGH}) {
            refused("primary " + primary, Check.ARGUMENT, x -> x.meter(3, primary, 1, 1, 1, 1));
            refused("primary " + primary + ", one is there", Check.ARGUMENT, x -> x.meter(5, primary, 1, 1, 1, 1));
        }
        for (int primary : new int[] {0, 250}) {
            MeterBus x = rich();
            x.meter(5, primary, 1, 1, 1, 1);
            Check.due("primary " + primary, x.state(5, 1), primary);
        }
    }

    private static void meterDigits() {
        for (int shift = 0; shift < 32; shift += 4) {
            for (int digit = 9; digit < 16; digit++) {
                int ident = digit << shift;
                if (digit > 9) {
                    refused("ident " + Integer.toHexString(ident), Check.ARGUMENT, x -> x.meter(3, 1, ident, 1, 1, 1));
                    continue;
                }
                MeterBus x = new MeterBus();
                x.meter(3, 1, ident, 1, 1, 1);
                x.search();
                Check.due("ident, its byte", x.found(0, shift / 8), digit << shift % 8);
            }
        }
    }

    private static void meterBytes() {
        for (int b : new int[] {LOW, -256, -2, -1, 255, 256, 257, HIGH}) {
            refused("version " + b, Check.ARGUMENT, x -> x.meter(3, 1, 1, 1, b, 1));
            refused("medium " + b, Check.ARGUMENT, x -> x.meter(3, 1, 1, 1, 1, b));
        }
        int[] makers = {LOW, LOW + 1, -65536, -256, -2, -1, 0x00FF, 0x01FF, 0xFEFF, 0xFF00, 0xFF01, 0xFFFE, 0xFFFF,
            0x10000, 0x10001, 0x1000000, 0x7FFF0001, HIGH};
        for (int maker : makers) {
            refused("maker " + maker, Check.ARGUMENT, x -> x.meter(3, 1, 1, maker, 1, 1));
        }
        int[][] good = {{0, 0, 0}, {254, 0, 0}, {0xFE00, 0, 0}, {0xFEFE, 254, 254}, {0x0100, 254, 0}, {1, 0, 254}};
        for (int[] b : good) {
            MeterBus x = new MeterBus();
            x.meter(3, 1, 1, b[0], b[1], b[2]);
            x.search();
            Check.due("maker, version, medium", Check.founds(x), "01 00 00 00 "
                    + Check.text(b[0] & 255, b[0] >> 8, b[1], b[2]) + "; ");
        }
    }

    private static void meterTwice() {
        for (int k = 0; k < 12; k++) {
            int number = k;
            if (k != 5) {
                refused("the address of meter 5 for " + k, Check.ARGUMENT,
                        x -> x.meter(number, 1, 0x12345678, 0x0203, 4, 5));
            }
            MeterBus x = rich();
            x.remove(5);
            x.meter(k, 9, 0x12345678, 0x0203, 4, 5);
            Check.due("it is gone: its address for " + k, x.state(k, 1), 9);
        }
        MeterBus x = rich();
        x.meter(5, 9, 0x12345678, 0x0203, 4, 5);
        Check.due("its own address again", x.state(5, 1), 9);
        int[][] nearly = {{0x02345678, 0x0203, 4, 5}, {0x12345679, 0x0203, 4, 5}, {0x12345678, 0x0204, 4, 5},
            {0x12345678, 0x0303, 4, 5}, {0x12345678, 0x0203, 5, 5}, {0x12345678, 0x0203, 4, 4}};
        for (int[] a : nearly) {
            MeterBus y = rich();
            y.meter(4, 7, a[0], a[1], a[2], a[3]);
            Check.due("nearly that address", y.count(0), 4);
            Check.due("it is found, too", y.search(), 4);
        }
    }

    private static void meterOrder() {
        int[][] wrong = {{251, 1, 1, 1, 1}, {1, 10, 1, 1, 1}, {1, 1, 255, 1, 1}, {1, 1, 1, 255, 1}, {1, 1, 1, 1, 255},
            {1, 0x12345678, 0x0203, 4, 5}, {-1, -1, -1, -1, -1}};
        for (int[] a : wrong) {
            refused("a wrong number", Check.ARGUMENT, x -> x.meter(3, a[0], a[1], a[2], a[3], a[4]));
            for (int k : new int[] {-1, 12}) {
                refused("no such meter, and a wrong number", Check.INDEX,
                        x -> x.meter(k, a[0], a[1], a[2], a[3], a[4]));
            }
        }
    }

    private static void remove() {
        for (int k : new int[] {LOW, -1, 12, HIGH}) {
            refused("remove " + k, Check.INDEX, x -> x.remove(k));
        }
        for (int k = 0; k < 12; k++) {
            MeterBus x = rich();
            boolean there = k == 0 || k == 5 || k == 11;
            Check.due("remove " + k, Check.bit(x.remove(k)), Check.bit(there));
            Check.due("it is there no more", x.state(k, 0), 0);
            Check.due("the others are", x.count(0), there ? 2 : 3);
        }
    }

    private static void page() {
        for (int k : new int[] {LOW, -1, 1, 4, 6, 10, 12, HIGH}) {
            refused("page 0 of meter " + k, Check.INDEX, x -> x.page(k, 0));
        }
        for (int i : new int[] {LOW, -1, 3, HIGH}) {
            refused("page " + i, Check.INDEX, x -> x.page(5, i));
        }
        for (int n : new int[] {61, 62, 300}) {
            for (int i = 0; i < 3; i++) {
                int number = i;
                refused("a page of " + n, () -> withBytes(n), Check.UNSUPPORTED, x -> x.page(5, number));
            }
        }
        for (int k : new int[] {0, 11}) {
            for (int i = 0; i < 3; i++) {
                MeterBus x = withBytes(60);
                Check.due("a page of 60", x.page(k, i), k == 11 ? Math.max(2, i + 1) : i + 1);
                Check.due("the buffer is empty then", x.count(1), 0);
            }
        }
    }

    private static void pageOrder() {
        int[][] wrong = {{-1, 0}, {12, 0}, {1, 0}, {5, -1}, {5, 3}, {1, 3}};
        for (int[] a : wrong) {
            refused("no such meter or page, and 61 bytes", () -> withBytes(61), Check.INDEX, x -> x.page(a[0], a[1]));
        }
    }

    private static void state() {
        for (int k : new int[] {LOW, -1, 12, HIGH}) {
            for (int what : new int[] {0, 6, 7}) {
                refused("state(" + k + ", " + what + ")", Check.INDEX, x -> x.state(k, what));
            }
        }
        for (int what : new int[] {LOW, -1, 7, HIGH}) {
            for (int k : new int[] {0, 1, 5, 11}) {
                refused("state(" + k + ", " + what + ")", Check.INDEX, x -> x.state(k, what));
            }
        }
        int[][] due = {{1, 0, 0, 1, 0, 0, 1}, {0, 0, 0, 0, 0, 0, 0}, {1, 7, 0, 3, 1, 1, 2}, {1, 250, 1, 2, 0, 0, 2}};
        int[] numbers = {0, 1, 5, 11};
        for (int i = 0; i < numbers.length; i++) {
            for (int what = 0; what < 7; what++) {
                Check.due("state(" + numbers[i] + ", " + what + ")", rich().state(numbers[i], what), due[i][what]);
            }
        }
    }

    private static void found() {
        for (int k : new int[] {LOW, -1, 3, 11, 12, HIGH}) {
            refused("found(" + k + ", 0)", Check.INDEX, x -> x.found(k, 0));
        }
        for (int what : new int[] {LOW, -1, 8, HIGH}) {
            refused("found(2, " + what + ")", Check.INDEX, x -> x.found(2, what));
        }
        refused("found(0, 0) of a new object", MeterBus::new, Check.INDEX, x -> x.found(0, 0));
        Check.due("found", Check.founds(rich()), "00 00 00 00 00 00 00 00 ; 78 56 34 12 03 02 04 05 ; "
                + "99 99 99 99 FE FE FE FE ; ");
    }

    private static void readOut() {
        for (int k : new int[] {LOW, -1, 3, 11, 12, HIGH}) {
            refused("readOut(" + k + ")", Check.INDEX, x -> x.readOut(k));
        }
        refused("readOut(0) of a new object", MeterBus::new, Check.INDEX, x -> x.readOut(0));
        int[] due = {0, 3, 0};
        for (int k = 0; k < 3; k++) {
            Check.due("readOut(" + k + ")", rich().readOut(k), due[k]);
        }
    }

    private static void record() {
        for (int i : new int[] {LOW, -1, 4, 99, 100, 101, HIGH}) {
            for (int what : new int[] {0, 6, 7}) {
                refused("record(" + i + ", " + what + ")", Check.INDEX, x -> x.record(i, what));
            }
        }
        int[] vifs = {2, 1, 1, 0};
        for (int i = 0; i < 4; i++) {
            int number = i;
            for (int what : new int[] {LOW, -1, 7 + vifs[i], 18, HIGH}) {
                refused("record(" + i + ", " + what + ")", Check.INDEX, x -> x.record(number, what));
            }
        }
        refused("record(0, 0) of a new object", MeterBus::new, Check.INDEX, x -> x.record(0, 0));
        Check.due("records", Check.records(rich()), "-250 2 0 0 0 0 2 147 20; 2 13 0 0 0 0 1 19 : 65 66; "
                + "12 13 0 0 0 0 1 19; 2 15 0 0 0 0 0 : 9 31; ");
    }

    private static void text() {
        for (int i : new int[] {LOW, -1, 4, 99, 100, 101, HIGH}) {
            refused("text(" + i + ", 0)", Check.INDEX, x -> x.text(i, 0));
        }
        for (int i : new int[] {1, 3}) {
            for (int j : new int[] {LOW, -1, 2, 236, HIGH}) {
                refused("text(" + i + ", " + j + ")", Check.INDEX, x -> x.text(i, j));
            }
        }
        for (int i : new int[] {0, 2}) {
            for (int j : new int[] {-1, 0, 1}) {
                refused("text(" + i + ", " + j + "), where there is none", Check.INDEX, x -> x.text(i, j));
            }
        }
        Check.due("text(1, 0)", rich().text(1, 0), 0x41);
        Check.due("text(1, 1)", rich().text(1, 1), 0x42);
        Check.due("text(3, 0)", rich().text(3, 0), 0x09);
        Check.due("text(3, 1)", rich().text(3, 1), 0x1F);
    }

    private static void count() {
        for (int what : new int[] {LOW, -1, 6, HIGH}) {
            refused("count(" + what + ")", Check.INDEX, x -> x.count(what));
        }
        Check.due("counts", Check.counts(rich()), "3 5 3 4 " + (1 + 10 + 3 * 3 + 2) + " 1 ");
    }
}
