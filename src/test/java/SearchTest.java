import java.util.Random;

/** Promises 10 (search) and 11 (found). A search is compared with one by frames that are sent to a twin. */
public final class SearchTest {
    public static void main(String[] args) {
        one();
        digits();
        bytesBehind();
        leavesBehind();
        foundIsRefused();
        forgetsWhatWasFound();
        twins();
        Check.end();
    }

    private static void one() {
        MeterBus x = new MeterBus();
        Check.due("none", x.search(), 0);
        Check.due("frames for none", x.count(4), 1);
        x.meter(7, 1, 0x12345678, 0x0203, 4, 5);
        x.type(0xAB, 1);
        Check.due("one", x.search(), 1);
        Check.due("frames for one", x.count(4), 5);
        Check.due("collisions", x.count(5), 0);
        Check.due("found", Check.founds(x), "78 56 34 12 03 02 04 05 ; ");
        Check.due("the buffer stays", Check.buffer(x), "AB ");
        Check.due("it is selected, and told page 0", Check.bit(Check.states(x).contains("1 1 1 1 0 0 1 ")), 1);
    }

    private static void digits() {
        MeterBus x = new MeterBus();
        x.meter(0, 1, 0x20000000, 0, 0, 0);
        x.meter(1, 1, 0x10000000, 0, 0, 0);
        x.meter(2, 1, 0x10000009, 0, 0, 0);
        x.meter(3, 1, 0x99999999, 0, 0, 0);
        Check.due("four", x.search(), 4);
        Check.due("found, by their digits", Check.founds(x), "00 00 00 10 00 00 00 00 ; "
                + "09 00 00 10 00 00 00 00 ; 00 00 00 20 00 00 00 00 ; 99 99 99 99 00 00 00 00 ; ");
        Check.due("collisions", x.count(5), 8);
        Check.due("frames", x.count(4), 1 + 8 * 10 + 4 * 3);
    }

    private static void bytesBehind() {
        MeterBus x = new MeterBus();
        x.meter(0, 1, 1, 0x0001, 0, 0);
        x.meter(1, 1, 1, 0x0100, 0, 0);
        x.meter(2, 1, 1, 0x0100, 254, 0);
        x.meter(3, 1, 1, 0x0100, 254, 254);
        Check.due("four", x.search(), 4);
        Check.due("found, by maker, version, medium", Check.founds(x), "01 00 00 00 00 01 00 00 ; "
                + "01 00 00 00 00 01 FE 00 ; 01 00 00 00 00 01 FE FE ; 01 00 00 00 01 00 00 00 ; ");
        Check.due("collisions", x.count(5), 12);
        Check.due("frames", x.count(4), 1 + 8 * 10 + 4 * 255 + 4 * 3);
    }

    private static void leavesBehind() {
        MeterBus x = new MeterBus();
        x.meter(0, 1, 0x90000000, 0, 0, 0);
        x.meter(1, 1, 0x10000000, 0, 0, 0);
        Check.send(x, Check.shortFrame(0x7B, 254));
        x.search();
        Check.due("the last one is selected", x.state(0, 2), 1);
        Check.due("an earlier one is not", x.state(1, 2), 0);
        for (int k = 0; k < 2; k++) {
            Check.due("page told", x.state(k, 4), 0);
            Check.due("bit", x.state(k, 5), 0);
            Check.due("access", x.state(k, 6), 2);
        }
    }

    private static void foundIsRefused() {
        MeterBus x = new MeterBus();
        x.meter(0, 1, 0x12345678, 0x0203, 4, 5);
        Check.dueThrow("found(0, 0) before a search", x, Check.INDEX, () -> x.found(0, 0));
        x.search();
        for (int k : new int[] {-1, 1, 12, Integer.MAX_VALUE, Integer.MIN_VALUE}) {
            Check.dueThrow("found(" + k + ", 0)", x, Check.INDEX, () -> x.found(k, 0));
        }
        for (int what : new int[] {-1, 8, Integer.MAX_VALUE, Integer.MIN_VALUE}) {
            Check.dueThrow("found(0, " + what + ")", x, Check.INDEX, () -> x.found(0, what));
        }
    }

    private static void forgetsWhatWasFound() {
        MeterBus x = new MeterBus();
        for (int k = 0; k < 12; k++) {
            x.meter(k, 1, k % 10 << 4 * (k % 8), k, 0, k);
        }
        Check.due("twelve", x.search(), 12);
        x.remove(0);
        Check.due("found stays", x.count(2), 12);
        Check.due("eleven", x.search(), 11);
        Check.due("found", x.count(2), 11);
        Check.dueThrow("found(11, 0)", x, Check.INDEX, () -> x.found(11, 0));
        for (int k = 1; k < 12; k++) {
            x.remove(k);
        }
        Check.due("none", x.search(), 0);
        Check.due("found none", x.count(2), 0);
    }

    private static void twins() {
        Random random = new Random(7);
        for (int run = 0; run < 12; run++) {
            MeterBus x = new MeterBus();
            MeterBus y = new MeterBus();
            for (int k = 0; k < 12; k++) {
                int ident = random.nextInt(2) << 28 | random.nextInt(10) << 4 | random.nextInt(2);
                int maker = random.nextInt(2) * 254 << 8 | random.nextInt(2) * 7;
                int primary = random.nextInt(251);
                int version = random.nextInt(2) * 254;
                int medium = random.nextInt(255);
                x.meter(k, primary, ident, maker, version, medium);
                y.meter(k, primary, ident, maker, version, medium);
            }
            StringBuilder found = new StringBuilder();
            probe(y, 0, Check.repeat(8, 0xFF), found);
            x.search();
            Check.due("run " + run + ": found", Check.founds(x), found.toString());
            Check.due("run " + run + ": states", Check.states(x), Check.states(y));
            Check.due("run " + run + ": frames", x.count(4), y.count(4));
            Check.due("run " + run + ": collisions", x.count(5), y.count(5));
        }
    }

    private static void probe(MeterBus y, int n, int[] mask, StringBuilder found) {
        int comes = Check.send(y, Check.longFrame(0x53, 253, 0x52, mask));
        if (comes == 1) {
            Check.send(y, Check.shortFrame(0x40, 253));
            Check.send(y, Check.longFrame(0x53, 253, 0x52, mask));
            Check.send(y, Check.shortFrame(0x5B, 253));
            for (int i = 7; i < 15; i++) {
                found.append(String.format("%02X ", y.typed(i)));
            }
            found.append("; ");
        }
        if (comes != MeterBus.COLLISION) {
            return;
        }
        int at = n < 8 ? 3 - n / 2 : n - 4;
        int was = mask[at];
        for (int value = 0; value < (n < 8 ? 10 : 255); value++) {
            mask[at] = n >= 8 ? value : n % 2 == 0 ? value << 4 | 15 : was & 0xF0 | value;
            probe(y, n + 1, mask, found);
        }
        mask[at] = was;
    }
}
