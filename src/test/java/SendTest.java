/** Promise 9 (send), and what meters do and answer. */
public final class SendTest {
    private static final int[] ALL_WILD = Check.repeat(8, 0xFF);

    public static void main(String[] args) {
        unsoundFrames();
        addresses();
        reset();
        pagesByTurns();
        pagesThatWent();
        answerBytes();
        accessWraps();
        selects();
        selectIsNotFor();
        forgets();
        setsPrimary();
        allElse();
        silentToAll();
        Check.end();
    }

    private static MeterBus three() {
        MeterBus x = new MeterBus();
        x.meter(0, 1, 0x12345678, 0x0201, 3, 4);
        x.meter(5, 2, 0x12345679, 0x0201, 3, 4);
        x.meter(11, 1, 0x92345678, 0x0201, 3, 5);
        return x;
    }

    private static MeterBus one() {
        MeterBus x = new MeterBus();
        x.meter(0, 1, 0x12345678, 0x0201, 3, 4);
        return x;
    }

    /** An answered question comes first, so that an old answer, page or bit could be seen. */
    private static void nothing(String what, MeterBus x, int... frame) {
        Check.due("ask", Check.send(x, Check.shortFrame(0x5B, 254)), 21);
        String before = Check.states(x);
        int frames = x.count(4);
        Check.due(what, Check.send(x, frame), 0);
        Check.due(what + ": the buffer is empty", x.count(1), 0);
        Check.due(what + ": the meters", Check.states(x), before);
        Check.due(what + ": it was put on the bus", x.count(4), frames + 1);
        Check.due(what + ": no collision", x.count(5), 0);
    }

    private static void single(String what, MeterBus x, int... frame) {
        Check.due(what, Check.send(x, frame), 1);
        Check.due(what + ": E5", Check.buffer(x), "E5 ");
    }

    private static void collision(String what, MeterBus x, int... frame) {
        int collisions = x.count(5);
        Check.due(what, Check.send(x, frame), MeterBus.COLLISION);
        Check.due(what + ": the buffer is empty", x.count(1), 0);
        Check.due(what + ": it is counted", x.count(5), collisions + 1);
    }

    private static int[] changed(int[] frame, int i, int b) {
        int[] other = frame.clone();
        other[i] = b;
        return other;
    }

    private static void unsoundFrames() {
        MeterBus x = one();
        nothing("no byte", x);
        nothing("a single one", x, 0xE5);
        int[] ask = Check.shortFrame(0x5B, 1);
        int[] forget = Check.longFrame(0x53, 1, 0x50);
        for (int i = 0; i < ask.length; i++) {
            nothing("short, byte " + i + " is another", x, changed(ask, i, ask[i] ^ 1));
            nothing("short, " + i + " bytes", x, java.util.Arrays.copyOf(ask, i));
        }
        for (int i = 0; i < forget.length; i++) {
            nothing("long, byte " + i + " is another", x, changed(forget, i, forget[i] ^ 1));
            nothing("long, " + i + " bytes", x, java.util.Arrays.copyOf(forget, i));
        }
        nothing("short and a byte", x, Check.join(ask, Check.bytes(0x16)));
        nothing("long and a byte", x, Check.join(forget, Check.bytes(0x16)));
        nothing("a length of 2", x, 0x68, 2, 2, 0x68, 0x53, 1, 0x54, 0x16);
        nothing("a length of 253", x, Check.longFrame(0x53, 254, 0x50, new int[250]));
        single("the short one itself", x, Check.shortFrame(0x40, 1));
        single("the long one itself", x, forget);
    }

    private static void addresses() {
        MeterBus x = three();
        single("primary of one", x, Check.shortFrame(0x40, 2));
        collision("primary of two", x, Check.shortFrame(0x40, 1));
        Check.due("primary of none", Check.send(x, Check.shortFrame(0x40, 0)), 0);
        Check.due("250, of none", Check.send(x, Check.shortFrame(0x40, 250)), 0);
        Check.due("251", Check.send(x, Check.shortFrame(0x40, 251)), 0);
        Check.due("252", Check.send(x, Check.shortFrame(0x40, 252)), 0);
        Check.due("253, none is selected", Check.send(x, Check.shortFrame(0x40, 253)), 0);
        collision("254", x, Check.shortFrame(0x40, 254));
        Check.due("255", Check.send(x, Check.shortFrame(0x40, 255)), 0);
        Check.due("collisions", x.count(5), 2);
        Check.due("frames", x.count(4), 9);
        x.remove(0);
        x.remove(5);
        single("254 for one", x, Check.shortFrame(0x40, 254));
        x.meter(0, 250, 1, 1, 1, 1);
        single("250, of one", x, Check.shortFrame(0x40, 250));
    }

    private static void reset() {
        MeterBus x = one();
        Check.send(x, Check.longFrame(0x53, 253, 0x52, ALL_WILD));
        Check.due("ask", Check.send(x, Check.shortFrame(0x7B, 253)), 21);
        Check.due("page told", x.state(0, 4), 0);
        Check.due("bit", x.state(0, 5), 1);
        single("reset by primary", x, Check.shortFrame(0x40, 1));
        Check.due("page told, forgotten", x.state(0, 4), -1);
        Check.due("bit, forgotten", x.state(0, 5), -1);
        Check.due("access stays", x.state(0, 6), 1);
        Check.due("selected stays", x.state(0, 2), 1);
        single("reset by 254", x, Check.shortFrame(0x40, 254));
        Check.due("selected stays", x.state(0, 2), 1);
        single("reset by 253", x, Check.shortFrame(0x40, 253));
        Check.due("not selected any more", x.state(0, 2), 0);
        Check.due("none is selected", Check.send(x, Check.shortFrame(0x40, 253)), 0);
    }

    private static void asks(MeterBus x, int c, int page) {
        Check.due("ask by " + c, Check.bit(Check.send(x, Check.shortFrame(c, 1)) > 0), 1);
        Check.due("page told, asked by " + c, x.state(0, 4), page);
        Check.due("bit, asked by " + c, x.state(0, 5), c >> 5 & 1);
        Check.due("the page's first byte", x.typed(19), 0xA0 + page);
        Check.due("more behind page " + page, Check.bit(x.typed(x.count(1) - 3) == 0x1F), page < 2 ? 1 : 0);
    }

    private static MeterBus threePages() {
        MeterBus x = one();
        for (int i = 0; i < 3; i++) {
            Check.fill(x, 0xA0 + i, 0xCC);
            x.page(0, i);
        }
        return x;
    }

    private static void pagesByTurns() {
        MeterBus x = threePages();
        int[] c = {0x5B, 0x5B, 0x7B, 0x7B, 0x5B, 0x7B, 0x7B, 0x5B};
        int[] page = {0, 0, 1, 1, 2, 0, 0, 1};
        for (int i = 0; i < c.length; i++) {
            asks(x, c[i], page[i]);
        }
        Check.due("access", x.state(0, 6), 8);
        Check.send(x, Check.shortFrame(0x40, 1));
        asks(x, 0x7B, 0);
        asks(x, 0x5B, 1);
    }

    private static void pagesThatWent() {
        MeterBus x = threePages();
        asks(x, 0x5B, 0);
        asks(x, 0x7B, 1);
        asks(x, 0x5B, 2);
        x.keep(0);
        Check.due("page 2 is empty", x.page(0, 2), 2);
        Check.due("page told stays", x.state(0, 4), 2);
        Check.due("the same bit, page 2 is gone", Check.send(x, Check.shortFrame(0x5B, 1)), 24);
        Check.due("then it is page 0", x.state(0, 4), 0);
        x.keep(0);
        Check.due("page 0 is empty", x.page(0, 0), 2);
        Check.due("an empty page, and more", Check.send(x, Check.shortFrame(0x5B, 1)), 22);
        Check.due("its only byte", x.typed(19), 0x1F);
    }

    private static void answerBytes() {
        MeterBus x = new MeterBus();
        x.meter(3, 200, 0x98765432, 0xFE01, 0xA2, 0xFD);
        Check.fill(x, 0x01, 0x13, 0xFF);
        x.page(3, 0);
        Check.fill(x, 0x0F);
        x.page(3, 1);
        Check.due("ask", Check.send(x, Check.shortFrame(0x5B, 200)), 25);
        Check.due("the answer", Check.buffer(x), Check.text(Check.longFrame(0x08, 200, 0x72,
                0x32, 0x54, 0x76, 0x98, 0x01, 0xFE, 0xA2, 0xFD, 0, 0, 0, 0, 0x01, 0x13, 0xFF, 0x1F)));
        Check.due("ask again", Check.send(x, Check.shortFrame(0x7B, 254)), 22);
        Check.due("the next answer", Check.buffer(x), Check.text(Check.longFrame(0x08, 200, 0x72,
                0x32, 0x54, 0x76, 0x98, 0x01, 0xFE, 0xA2, 0xFD, 1, 0, 0, 0, 0x0F)));
    }

    private static void accessWraps() {
        MeterBus x = one();
        Check.fill(x, 0x1F);
        x.page(0, 0);
        x.search();
        for (int i = 0; i < 25; i++) {
            x.readOut(0);
        }
        for (int i = 0; i < 4; i++) {
            Check.send(x, Check.shortFrame(0x5B, 1));
        }
        Check.due("access", x.state(0, 6), 255);
        Check.send(x, Check.shortFrame(0x5B, 1));
        Check.due("access that was told", x.typed(15), 255);
        Check.due("0 behind 255", x.state(0, 6), 0);
    }

    private static void selected(MeterBus x, int a, int b, int c) {
        Check.due("meter 0 is selected", x.state(0, 2), a);
        Check.due("meter 5 is selected", x.state(5, 2), b);
        Check.due("meter 11 is selected", x.state(11, 2), c);
    }

    private static void selects() {
        MeterBus x = three();
        collision("all wild", x, Check.longFrame(0x53, 253, 0x52, ALL_WILD));
        selected(x, 1, 1, 1);
        single("a whole address", x, Check.longFrame(0x73, 253, 0x52, 0x79, 0x56, 0x34, 0x12, 1, 2, 3, 4));
        selected(x, 0, 1, 0);
        single("the highest digit", x, Check.longFrame(0x53, 253, 0x52, 255, 255, 255, 0x9F, 255, 255, 255, 255));
        selected(x, 0, 0, 1);
        collision("a low digit", x, Check.longFrame(0x53, 253, 0x52, 0xF8, 255, 255, 0xF2, 255, 255, 255, 255));
        selected(x, 1, 0, 1);
        single("a medium", x, Check.longFrame(0x53, 253, 0x52, 255, 255, 255, 255, 255, 255, 255, 5));
        selected(x, 0, 0, 1);
        collision("a maker", x, Check.longFrame(0x53, 253, 0x52, 255, 255, 255, 255, 1, 2, 3, 255));
        Check.due("no wildcard by digits behind", Check.send(x,
                Check.longFrame(0x53, 253, 0x52, 255, 255, 255, 255, 0xF1, 255, 255, 255)), 0);
        selected(x, 0, 0, 0);
        Check.due("no such digit", Check.send(x,
                Check.longFrame(0x53, 253, 0x52, 0xFE, 255, 255, 255, 255, 255, 255, 255)), 0);
        single("ask the one that is selected", x, Check.longFrame(0x53, 253, 0x52, 0x79, 0x56, 0x34, 0x12, 1, 2, 3, 4));
        Check.due("its answer", Check.send(x, Check.shortFrame(0x5B, 253)), 21);
        Check.due("is of the second", x.typed(7), 0x79);
    }

    private static void selectIsNotFor() {
        MeterBus x = one();
        for (int a : new int[] {1, 0, 251, 252, 254, 255}) {
            nothing("to select by " + a, x, Check.longFrame(0x53, a, 0x52, ALL_WILD));
        }
        nothing("to select by 7 bytes", x, Check.longFrame(0x53, 253, 0x52, Check.repeat(7, 0xFF)));
        nothing("to select by 9 bytes", x, Check.longFrame(0x53, 253, 0x52, Check.repeat(9, 0xFF)));
        nothing("to select by C 43", x, Check.longFrame(0x43, 253, 0x52, ALL_WILD));
        single("to select", x, Check.longFrame(0x53, 253, 0x52, ALL_WILD));
        nothing("7 bytes, when it is selected", x, Check.longFrame(0x53, 253, 0x52, Check.repeat(7, 0xFF)));
    }

    private static void forgets() {
        for (int c : new int[] {0x53, 0x73}) {
            MeterBus x = one();
            Check.send(x, Check.longFrame(0x53, 253, 0x52, ALL_WILD));
            Check.send(x, Check.shortFrame(0x7B, 1));
            nothing("I 50 with data", x, Check.longFrame(c, 1, 0x50, 0));
            int access = x.state(0, 6);
            single("I 50", x, Check.longFrame(c, 253, 0x50));
            Check.due("page told", x.state(0, 4), -1);
            Check.due("bit", x.state(0, 5), -1);
            Check.due("selected stays", x.state(0, 2), 1);
            Check.due("access stays", x.state(0, 6), access);
        }
    }

    private static void setsPrimary() {
        MeterBus x = one();
        single("primary 250", x, Check.longFrame(0x53, 1, 0x51, 0x01, 0x7A, 250));
        Check.due("it is 250", x.state(0, 1), 250);
        single("primary 0", x, Check.longFrame(0x73, 250, 0x51, 0x01, 0x7A, 0));
        Check.due("it is 0", x.state(0, 1), 0);
        nothing("primary 251", x, Check.longFrame(0x53, 0, 0x51, 0x01, 0x7A, 251));
        nothing("primary 255", x, Check.longFrame(0x53, 0, 0x51, 0x01, 0x7A, 255));
        nothing("another DIF", x, Check.longFrame(0x53, 0, 0x51, 0x02, 0x7A, 5));
        nothing("another VIF", x, Check.longFrame(0x53, 0, 0x51, 0x01, 0x7B, 5));
        nothing("two bytes", x, Check.longFrame(0x53, 0, 0x51, 0x01, 0x7A));
        nothing("four bytes", x, Check.longFrame(0x53, 0, 0x51, 0x01, 0x7A, 5, 5));
        MeterBus y = three();
        collision("primary of all", y, Check.longFrame(0x53, 254, 0x51, 0x01, 0x7A, 9));
        for (int k : new int[] {0, 5, 11}) {
            Check.due("primary of " + k, y.state(k, 1), 9);
        }
    }

    private static void allElse() {
        MeterBus x = one();
        for (int c = 0; c < 256; c++) {
            if (c != 0x40 && c != 0x5B && c != 0x7B) {
                nothing("short, C " + c, x, Check.shortFrame(c, 254));
            }
            if (c != 0x53 && c != 0x73) {
                nothing("long, C " + c, x, Check.longFrame(c, 254, 0x50));
            }
        }
        MeterBus y = one();
        for (int i = 0; i < 256; i++) {
            if (i != 0x50) {
                nothing("long, I " + i, y, Check.longFrame(0x53, 254, i));
            }
        }
    }

    private static void silentToAll() {
        MeterBus x = three();
        Check.due("primary of all", Check.send(x, Check.longFrame(0x53, 255, 0x51, 0x01, 0x7A, 9)), 0);
        Check.due("it is 9", x.state(11, 1), 9);
        Check.due("ask all", Check.send(x, Check.shortFrame(0x7B, 255)), 0);
        Check.due("the buffer is empty", x.count(1), 0);
        Check.due("access", x.state(5, 6), 1);
        Check.due("bit", x.state(5, 5), 1);
        Check.due("reset all", Check.send(x, Check.shortFrame(0x40, 255)), 0);
        Check.due("bit, forgotten", x.state(5, 5), -1);
        Check.due("no collision", x.count(5), 0);
        MeterBus y = one();
        Check.due("one alone does not answer", Check.send(y, Check.shortFrame(0x5B, 255)), 0);
        Check.due("its buffer is empty", y.count(1), 0);
        Check.due("its access", y.state(0, 6), 1);
    }
}
