/** Promises 2 (type), 3 (keep) and 4 (typed). */
public final class BufferTest {
    public static void main(String[] args) {
        types();
        typeIsRefused();
        keeps();
        tellsBytes();
        Check.end();
    }

    private static void types() {
        MeterBus x = new MeterBus();
        Check.due("type 3 bytes", x.type(0x11223344556677AAL, 3), 3);
        Check.due("the highest of them first", Check.buffer(x), "66 77 AA ");
        Check.due("type 8 bytes", x.type(0xFF00000000000080L, 8), 11);
        Check.due("behind the buffer", Check.buffer(x), "66 77 AA FF 00 00 00 00 00 00 80 ");
        Check.due("type 1 byte of -1", x.type(-1, 1), 12);
        Check.due("a byte is 0 .. 255", x.typed(11), 255);
    }

    private static void typeIsRefused() {
        MeterBus x = new MeterBus();
        Check.dueThrow("type 0 bytes", x, Check.ARGUMENT, () -> x.type(1, 0));
        Check.dueThrow("type 9 bytes", x, Check.ARGUMENT, () -> x.type(1, 9));
        Check.dueThrow("type -1 bytes", x, Check.ARGUMENT, () -> x.type(1, Integer.MIN_VALUE));
        for (int i = 0; i < 37; i++) {
            x.type(i, 8);
        }
        Check.dueThrow("type beyond 300", x, Check.UNSUPPORTED, () -> x.type(1, 5));
        Check.due("type up to 300", x.type(0x01020304, 4), 300);
        Check.due("the last byte", x.typed(299), 4);
        Check.dueThrow("type behind 300", x, Check.UNSUPPORTED, () -> x.type(1, 1));
        Check.dueThrow("the exception named first", x, Check.ARGUMENT, () -> x.type(1, 9));
    }

    private static void keeps() {
        MeterBus x = new MeterBus();
        x.type(0x010203, 3);
        Check.dueThrow("keep -1", x, Check.ARGUMENT, () -> x.keep(-1));
        Check.dueThrow("keep more than there are", x, Check.ARGUMENT, () -> x.keep(4));
        Check.dueThrow("keep very many", x, Check.ARGUMENT, () -> x.keep(Integer.MAX_VALUE));
        x.keep(3);
        Check.due("keep all", Check.buffer(x), "01 02 03 ");
        x.keep(2);
        Check.due("keep two", Check.buffer(x), "01 02 ");
        Check.due("type behind what was kept", x.type(9, 1), 3);
        Check.due("what was kept", Check.buffer(x), "01 02 09 ");
        x.keep(0);
        Check.due("keep none", x.count(1), 0);
        Check.dueThrow("keep one of none", x, Check.ARGUMENT, () -> x.keep(1));
    }

    private static void tellsBytes() {
        MeterBus x = new MeterBus();
        x.type(0xFE01, 2);
        Check.due("typed(0)", x.typed(0), 0xFE);
        Check.due("typed(1)", x.typed(1), 1);
        Check.dueThrow("typed(2)", x, Check.INDEX, () -> x.typed(2));
        Check.dueThrow("typed(-1)", x, Check.INDEX, () -> x.typed(-1));
        x.keep(1);
        Check.dueThrow("typed(1) that is not kept", x, Check.INDEX, () -> x.typed(1));
    }
}
