import java.util.Random;

/** Promise 12 (readOut), and what place() says behind it. */
public final class ReadOutTest {
    public static void main(String[] args) {
        pages();
        listIsEmptyFirst();
        tenQuestions();
        maker();
        gone();
        faults();
        tooMany();
        isRefused();
        twins();
        Check.end();
    }

    private static MeterBus withPages(int[]... pages) {
        MeterBus x = new MeterBus();
        x.meter(4, 9, 0x12345678, 0x0203, 4, 5);
        for (int i = 0; i < pages.length; i++) {
            Check.fill(x, pages[i]);
            x.page(4, i);
        }
        Check.due("search", x.search(), 1);
        return x;
    }

    private static void pages() {
        MeterBus x = withPages(Check.bytes(0x01, 0x13, 0x05), Check.bytes(), Check.bytes(0x02, 0x14, 0x06, 0xFF));
        x.type(0xAB, 1);
        int frames = x.count(4);
        Check.due("two records of three pages", x.readOut(0), 2);
        Check.due("records", Check.records(x), "5 1 0 0 0 0 1 19; -250 2 0 0 0 0 1 20; ");
        Check.due("frames", x.count(4), frames + 6);
        Check.due("the buffer stays", Check.buffer(x), "AB ");
        Check.due("place", x.place(), MeterBus.NONE);
        Check.due("page told", x.state(4, 4), 2);
        Check.due("the bit of the first and third question", x.state(4, 5), 1);
        Check.due("access", x.state(4, 6), 4);
        Check.due("selected", x.state(4, 2), 1);
        MeterBus y = withPages(Check.bytes(0x01, 0x13, 0x05), Check.bytes(0x01, 0x13, 0x06));
        Check.due("two pages", y.readOut(0), 2);
        Check.due("the bit of the second question", y.state(4, 5), 0);
        Check.due("no page at all", withPages().readOut(0), 0);
    }

    private static void listIsEmptyFirst() {
        MeterBus x = withPages(Check.bytes(0x01, 0x13, 0x05));
        Check.due("a record before", Check.decode(x, Check.answer(0x01, 0x13, 0x09)), 1);
        Check.due("read out", x.readOut(0), 1);
        Check.due("the new one", x.record(0, 0), 5);
        Check.due("read out again", x.readOut(0), 1);
        Check.due("a record behind", Check.decode(x, Check.answer(0x01, 0x13, 0x09)), 2);
        Check.due("its value", x.record(1, 0), 9);
    }

    private static void tenQuestions() {
        MeterBus x = withPages(Check.bytes(0x01, 0x13, 0x05, 0x1F));
        int frames = x.count(4);
        Check.due("ten questions at most", x.readOut(0), 10);
        Check.due("frames", x.count(4), frames + 13);
        Check.due("place", x.place(), MeterBus.NONE);
        Check.due("access", x.state(4, 6), 11);
    }

    private static void maker() {
        MeterBus x = withPages(Check.bytes(0x0F, 0x01), Check.bytes(0x01, 0x13, 0x05));
        Check.due("1F is one of the maker's bytes", x.readOut(0), 1);
        Check.due("records", Check.records(x), "2 15 0 0 0 0 0 : 1 31; ");
        Check.due("only one question", x.state(4, 4), 0);
    }

    private static void gone() {
        MeterBus x = withPages(Check.bytes(0x01, 0x13, 0xF5), Check.bytes(0x08, 0x13));
        x.readOut(0);
        Check.due("a fault before", x.place(), 19);
        x.remove(4);
        Check.decode(x, Check.answer(0x01, 0x13, 0x09));
        Check.decode(x);
        Check.due("a fault before", x.place(), 0);
        int frames = x.count(4);
        Check.due("one that is gone", x.readOut(0), MeterBus.NONE);
        Check.due("frames", x.count(4), frames + 1);
        Check.due("the list is empty", x.count(3), 0);
        Check.due("place", x.place(), MeterBus.NONE);
        x.meter(0, 1, 0x12345678, 0x0203, 4, 5);
        Check.due("another meter with that address", x.readOut(0), 0);
        x.meter(0, 1, 0x12345678, 0x0203, 4, 6);
        Check.due("with another address", x.readOut(0), MeterBus.NONE);
    }

    private static void faults() {
        fault("a byte that lacks", 4, 22, Check.bytes(0x01, 0x13, 0x05), Check.bytes(0x02, 0x13, 0x05));
        fault("the byte of more twice", 4, 23, Check.bytes(0x01, 0x13, 0x05, 0x1F), Check.bytes(0x02, 0x13, 0x05));
        fault("11 DIFEs", 5, 30, Check.repeat(20, 0x80));
        fault("11 VIFEs", 6, 31, Check.join(Check.bytes(0x00), Check.repeat(20, 0x80)));
        fault("a digit", 7, 21, Check.bytes(0x09, 0x13, 0xA0));
        fault("a size", 8, 21, Check.bytes(0x0D, 0x13, 0xFF));
        fault("a code", 9, 19, Check.bytes(0x08, 0x13));
    }

    private static void fault(String what, int fault, int place, int[]... pages) {
        MeterBus x = withPages(pages);
        Check.due("a record before", Check.decode(x, Check.answer(0x01, 0x13, 0x09)), 1);
        Check.due(what, x.readOut(0), -2 - fault);
        Check.due(what + ": place", x.place(), place);
        Check.due(what + ": the list is empty", x.count(3), 0);
        Check.dueThrow(what + ": record(0, 0)", x, Check.INDEX, () -> x.record(0, 0));
    }

    private static void tooMany() {
        MeterBus x = withPages(Check.join(Check.repeat(29, 0x00, 0x13), Check.bytes(0x1F)));
        Check.due("29 a question", x.readOut(0), -12);
        Check.due("place of the 101st", x.place(), 19 + 2 * 13);
        Check.due("the list is empty", x.count(3), 0);
        Check.due("four questions", x.state(4, 6), 5);
        MeterBus y = withPages(Check.join(Check.repeat(10, 0x00, 0x13), Check.bytes(0x1F)));
        Check.due("100 are not too many", y.readOut(0), 100);
    }

    private static void isRefused() {
        MeterBus x = withPages(Check.bytes(0x01, 0x13, 0x05));
        Check.decode(x, Check.answer(0x01, 0x13, 0x09));
        for (int k : new int[] {-1, 1, 12, Integer.MAX_VALUE, Integer.MIN_VALUE}) {
            Check.dueThrow("readOut(" + k + ")", x, Check.INDEX, () -> x.readOut(k));
        }
    }

    private static void twins() {
        Random random = new Random(11);
        int[][] items = {{0x01, 0x13, 0x05}, {0x0C, 0x14, 0x78, 0x56, 0x34, 0x12}, {0x2F}, {0x0D, 0x13, 0x02, 0x41, 0x42},
            {0x00, 0x93, 0x01}, {0x09, 0x13, 0xFA}, {0x84, 0x50, 0x13, 1, 2, 3, 4}, {0x1F}, {0x0F, 0x33}, {0x08, 0x01}};
        for (int run = 0; run < 200; run++) {
            int[][] pages = new int[3][];
            for (int i = 0; i < 3; i++) {
                pages[i] = new int[0];
                for (int j = random.nextInt(6); j > 0; j--) {
                    pages[i] = Check.join(pages[i], items[random.nextInt(items.length - random.nextInt(3))]);
                }
            }
            MeterBus x = withPages(pages);
            MeterBus y = withPages(pages);
            Check.due("run " + run, x.readOut(0), byFrames(y));
            Check.due("run " + run + ": records", Check.records(x), Check.records(y));
            Check.due("run " + run + ": place", x.place(), y.place());
            Check.due("run " + run + ": states", Check.states(x), Check.states(y));
            Check.due("run " + run + ": frames", x.count(4), y.count(4));
        }
    }

    private static int byFrames(MeterBus y) {
        int[] select = Check.longFrame(0x53, 253, 0x52, 0x78, 0x56, 0x34, 0x12, 3, 2, 4, 5);
        Check.send(y, select);
        Check.send(y, Check.shortFrame(0x40, 253));
        Check.send(y, select);
        for (int i = 0; i < 10; i++) {
            Check.send(y, Check.shortFrame(i % 2 == 0 ? 0x7B : 0x5B, 253));
            boolean endsByMore = y.typed(y.count(1) - 3) == 0x1F;
            int records = y.decode();
            if (records < 0) {
                y.clear();
                return -2 + records;
            }
            boolean makers = records > 0 && y.record(records - 1, 1) == 15 && y.record(records - 1, 0) > 0
                    && y.text(records - 1, (int) y.record(records - 1, 0) - 1) == 0x1F;
            if (!endsByMore || makers) {
                break;
            }
        }
        return y.count(3);
    }
}
