/** Promises 5 (meter), 6 (remove), 7 (page) and 8 (state). */
public final class MetersTest {
    public static void main(String[] args) {
        plugs();
        edgesOfNumbers();
        isRefused();
        replaces();
        removes();
        setsPages();
        pageIsRefused();
        tellsState();
        Check.end();
    }

    private static void plugs() {
        MeterBus x = new MeterBus();
        x.meter(11, 250, 0x98765432, 0xFE01, 254, 0);
        Check.due("meters there", x.count(0), 1);
        Check.due("search", x.search(), 1);
        Check.due("the secondary address", Check.founds(x), "32 54 76 98 01 FE FE 00 ; ");
        Check.due("primary", x.state(11, 1), 250);
    }

    private static void edgesOfNumbers() {
        MeterBus x = new MeterBus();
        x.meter(0, 0, 0, 0, 0, 0);
        x.meter(1, 250, 0x99999999, 0xFEFE, 254, 254);
        x.meter(2, 250, 0x99999999, 0xFEFE, 254, 253);
        Check.due("meters there", x.count(0), 3);
        Check.due("search", x.search(), 3);
        Check.due("their addresses", Check.founds(x), "00 00 00 00 00 00 00 00 ; "
                + "99 99 99 99 FE FE FE FD ; 99 99 99 99 FE FE FE FE ; ");
    }

    private static void refuse(MeterBus x, Class<? extends RuntimeException> due, int... a) {
        Check.dueThrow("meter(" + java.util.Arrays.toString(a) + ")", x, due,
                () -> x.meter(a[0], a[1], a[2], a[3], a[4], a[5]));
    }

    private static void isRefused() {
        MeterBus x = new MeterBus();
        x.meter(3, 5, 0x12, 0x0304, 6, 7);
        MeterBus y = new MeterBus();
        y.meter(0, 5, 0x12, 0x0304, 6, 7);
        refuse(y, Check.ARGUMENT, 11, 5, 0x12, 0x0304, 6, 7);
        for (int k : new int[] {-1, 12, Integer.MAX_VALUE, Integer.MIN_VALUE}) {
            refuse(x, Check.INDEX, k, 1, 1, 1, 1, 1);
            refuse(x, Check.INDEX, k, -1, 1, 1, 1, 1);
        }
        for (int k : new int[] {0, 3}) {
            for (int primary : new int[] {-1, 251, 253, 256, Integer.MIN_VALUE}) {
                refuse(x, Check.ARGUMENT, k, primary, 1, 1, 1, 1);
            }
            for (int ident : new int[] {0xA, 0xA0, 0xF00, 0xB000, 0xC0000, 0xD00000, 0xE000000, 0xA0000000, -1}) {
                refuse(x, Check.ARGUMENT, k, 1, ident, 1, 1, 1);
            }
            for (int maker : new int[] {-1, 0xFF, 0xFF00, 0xFF12, 0x12FF, 0x10000, 0x1000000, Integer.MIN_VALUE}) {
                refuse(x, Check.ARGUMENT, k, 1, 1, maker, 1, 1);
            }
            for (int b : new int[] {-1, 255, 256, Integer.MAX_VALUE, Integer.MIN_VALUE}) {
                refuse(x, Check.ARGUMENT, k, 1, 1, 1, b, 1);
                refuse(x, Check.ARGUMENT, k, 1, 1, 1, 1, b);
            }
        }
        refuse(x, Check.ARGUMENT, 4, 9, 0x12, 0x0304, 6, 7);
        x.meter(4, 5, 0x13, 0x0304, 6, 7);
        refuse(x, Check.ARGUMENT, 3, 9, 0x13, 0x0304, 6, 7);
        Check.due("meters there", x.count(0), 2);
    }

    private static void replaces() {
        MeterBus x = new MeterBus();
        x.meter(0, 5, 0x12, 0x0304, 6, 7);
        x.type(0x0113, 2);
        x.page(0, 1);
        Check.due("select", Check.send(x, Check.longFrame(0x53, 253, 0x52, Check.repeat(8, 0xFF))), 1);
        Check.due("ask", Check.send(x, Check.shortFrame(0x7B, 5)), 22);
        Check.due("before", Check.states(x).substring(0, 14), "1 5 1 2 0 1 1 ");
        x.meter(0, 6, 0x12, 0x0304, 6, 7);
        Check.due("a new one", Check.states(x).substring(0, 16), "1 6 0 1 -1 -1 0 ");
        Check.due("its pages are empty", Check.send(x, Check.shortFrame(0x7B, 6)), 21);
        Check.due("meters there", x.count(0), 1);
    }

    private static void removes() {
        MeterBus x = new MeterBus();
        x.meter(0, 5, 0x12, 0x0304, 6, 7);
        Check.due("remove one that is not there", Check.bit(x.remove(11)), 0);
        Check.due("remove one that is there", Check.bit(x.remove(0)), 1);
        Check.due("remove it again", Check.bit(x.remove(0)), 0);
        Check.due("meters there", x.count(0), 0);
        Check.due("it hears nothing", Check.send(x, Check.shortFrame(0x40, 254)), 0);
        x.meter(1, 5, 0x12, 0x0304, 6, 7);
        Check.due("its address is free", x.count(0), 1);
        for (int k : new int[] {-1, 12, Integer.MAX_VALUE}) {
            Check.dueThrow("remove(" + k + ")", x, Check.INDEX, () -> x.remove(k));
        }
    }

    private static void setsPages() {
        MeterBus x = new MeterBus();
        x.meter(0, 5, 0x12, 0x0304, 6, 7);
        Check.due("an empty page 2", x.page(0, 2), 1);
        x.type(0xAABB, 2);
        Check.due("page 2", x.page(0, 2), 3);
        Check.due("the buffer is empty then", x.count(1), 0);
        Check.due("an empty page 1 before it", x.page(0, 1), 3);
        x.type(1, 1);
        Check.due("page 0", x.page(0, 0), 3);
        Check.due("page 2 becomes empty", x.page(0, 2), 1);
        x.type(1, 1);
        Check.due("page 1", x.page(0, 1), 2);
        Check.due("page 0 becomes empty", x.page(0, 0), 2);
        Check.fill(x, Check.repeat(60, 0x2F));
        Check.due("60 bytes", x.page(0, 0), 2);
        Check.due("the longest answer", Check.send(x, Check.shortFrame(0x5B, 5)), 82);
        Check.fill(x, 0xC1);
        x.page(0, 0);
        Check.due("a shorter page", Check.send(x, Check.shortFrame(0x5B, 5)), 23);
        Check.due("its byte", x.typed(19), 0xC1);
        Check.due("the byte of more", x.typed(20), 0x1F);
    }

    private static void pageIsRefused() {
        MeterBus x = new MeterBus();
        x.meter(0, 5, 0x12, 0x0304, 6, 7);
        Check.fill(x, Check.repeat(61, 0x2F));
        Check.dueThrow("61 bytes", x, Check.UNSUPPORTED, () -> x.page(0, 0));
        Check.dueThrow("61 bytes and no meter", x, Check.INDEX, () -> x.page(1, 0));
        Check.dueThrow("61 bytes and no page", x, Check.INDEX, () -> x.page(0, 3));
        x.keep(60);
        for (int k : new int[] {-1, 1, 11, 12, Integer.MAX_VALUE}) {
            Check.dueThrow("page(" + k + ", 0)", x, Check.INDEX, () -> x.page(k, 0));
        }
        for (int i : new int[] {-1, 3, Integer.MAX_VALUE, Integer.MIN_VALUE}) {
            Check.dueThrow("page(0, " + i + ")", x, Check.INDEX, () -> x.page(0, i));
        }
    }

    private static void tellsState() {
        MeterBus x = new MeterBus();
        x.meter(2, 77, 0x12, 0x0304, 6, 7);
        int[] due = {1, 77, 0, 1, -1, -1, 0};
        for (int what = 0; what < 7; what++) {
            Check.due("state(2, " + what + ")", x.state(2, what), due[what]);
            Check.due("of none, state(3, " + what + ")", x.state(3, what), 0);
        }
        for (int k : new int[] {-1, 12, Integer.MAX_VALUE}) {
            Check.dueThrow("state(" + k + ", 0)", x, Check.INDEX, () -> x.state(k, 0));
        }
        for (int what : new int[] {-1, 7, Integer.MAX_VALUE}) {
            Check.dueThrow("state(2, " + what + ")", x, Check.INDEX, () -> x.state(2, what));
            Check.dueThrow("state(3, " + what + ")", x, Check.INDEX, () -> x.state(3, what));
        }
    }
}
