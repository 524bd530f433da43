import java.util.Arrays;

/** The edges that "1 FRAMES" names, and those of promises 2, 3, 4 and 9; a comment tells the sentence. */
public final class FrameEdgesTest {
    public static void main(String[] args) {
        single();
        shortFrame();
        longLength();
        sumOfShort();
        sumOfLong();
        sumOfAnswer();
        bufferFills();
        placesFromZero();
        lowestBytes();
        keepsFirst();
        nothingOrCollision();
        Check.end();
    }

    private static MeterBus one(int primary) {
        MeterBus x = new MeterBus();
        x.meter(0, primary, 0x12345678, 0x0201, 3, 4);
        return x;
    }

    private static void sound(String what, MeterBus x, int... frame) {
        Check.due(what, Check.send(x, frame), 1);
        Check.due(what + ": the answer", Check.buffer(x), "E5 ");
    }

    private static void unsound(String what, MeterBus x, int... frame) {
        String before = Check.states(x);
        Check.due(what, Check.send(x, frame), 0);
        Check.due(what + ": the buffer", Check.buffer(x), "");
        Check.due(what + ": the meters", Check.states(x), before);
    }

    /** "SINGLE: E5." It is an answer; put on the bus it is for none. */
    private static void single() {
        MeterBus x = one(1);
        sound("the answer", x, Check.shortFrame(0x40, 1));
        Check.due("it is sent again", x.send(), 0);
        Check.due("nothing comes", x.count(1), 0);
    }

    /** "SHORT: 10 C A S 16." Five bytes, no less and no more. */
    private static void shortFrame() {
        MeterBus x = one(1);
        int[] frame = Check.shortFrame(0x40, 1);
        sound("five bytes", x, frame);
        for (int n = 0; n < 5; n++) {
            unsound(n + " bytes", x, Arrays.copyOf(frame, n));
            unsound("without byte " + n, x, Check.join(Arrays.copyOf(frame, n), Arrays.copyOfRange(frame, n + 1, 5)));
        }
        unsound("six bytes", x, Check.join(frame, Check.bytes(0x16)));
        unsound("a byte before it", x, Check.join(Check.bytes(0x10), frame));
        unsound("twice", x, Check.join(frame, frame));
        for (int i : new int[] {0, 3, 4}) {
            for (int b : new int[] {frame[i] - 1, frame[i] + 1, frame[i] ^ 0x80}) {
                int[] other = frame.clone();
                other[i] = b & 255;
                unsound("byte " + i + " is " + b, x, other);
            }
        }
    }

    /** "L is how many bytes C, A, I and the data are (3 .. 252)." */
    private static void longLength() {
        MeterBus x = one(1);
        sound("L 3", x, Check.longFrame(0x53, 1, 0x50));
        unsound("L 2", x, 0x68, 2, 2, 0x68, 0x53, 1, 0x54, 0x16);
        unsound("L 2, and I 50 for S", x, 0x68, 2, 2, 0x68, 0x53, 1, 0x50, 0x16);
        unsound("L 0", x, 0x68, 0, 0, 0x68, 0, 0x16);
        sound("L 6", x, Check.longFrame(0x53, 1, 0x51, 0x01, 0x7A, 1));
        unsound("L is one less than the bytes", x, 0x68, 5, 5, 0x68, 0x53, 1, 0x51, 0x01, 0x7A, 1, 0x21, 0x16);
        unsound("L is one more than the bytes", x, 0x68, 7, 7, 0x68, 0x53, 1, 0x51, 0x01, 0x7A, 1, 0x21, 0x16);
        unsound("the second L is another", x, 0x68, 6, 7, 0x68, 0x53, 1, 0x51, 0x01, 0x7A, 1, 0x21, 0x16);
        unsound("the first L is another", x, 0x68, 7, 6, 0x68, 0x53, 1, 0x51, 0x01, 0x7A, 1, 0x21, 0x16);
        unsound("L 252, with nothing to do", x, Check.longFrame(0x53, 1, 0x50, new int[249]));
        unsound("L 253", x, Check.longFrame(0x53, 1, 0x50, new int[250]));
        Check.due("L 252 is decoded", Check.decode(x, Check.answer(Check.repeat(237, 0x2F))), 0);
        Check.due("L 253 is not", Check.decode(x, Check.answer(Check.repeat(238, 0x2F))), -1);
        Check.due("its place", x.place(), 1);
    }

    /** "S is the sum of C, A .., modulo 256": sums of 255, 256, 257. */
    private static void sumOfShort() {
        int[] dueSum = {255, 0, 1};
        for (int i = 0; i < 3; i++) {
            int a = 255 + i - 0x40;
            MeterBus x = one(a);
            sound("a sum of " + (255 + i), x, 0x10, 0x40, a, dueSum[i], 0x16);
            unsound("one less", x, 0x10, 0x40, a, dueSum[i] - 1 & 255, 0x16);
            unsound("one more", x, 0x10, 0x40, a, dueSum[i] + 1 & 255, 0x16);
        }
    }

    /** "(and I, the data), modulo 256": sums of 255, 256, 257, and of more than 2000. */
    private static void sumOfLong() {
        int[] dueSum = {255, 0, 1};
        for (int i = 0; i < 3; i++) {
            int a = 255 + i - 0x53 - 0x50;
            MeterBus x = one(a);
            sound("a sum of " + (255 + i), x, 0x68, 3, 3, 0x68, 0x53, a, 0x50, dueSum[i], 0x16);
            unsound("one less", x, 0x68, 3, 3, 0x68, 0x53, a, 0x50, dueSum[i] - 1 & 255, 0x16);
            unsound("one more", x, 0x68, 3, 3, 0x68, 0x53, a, 0x50, dueSum[i] + 1 & 255, 0x16);
        }
        MeterBus y = one(1);
        int sum = 0x53 + 253 + 0x52 + 8 * 255 & 255;
        sound("a large sum", y, Check.join(Check.bytes(0x68, 11, 11, 0x68, 0x53, 253, 0x52), Check.repeat(8, 0xFF),
                Check.bytes(sum, 0x16)));
    }

    /** The same of what a meter answers: its bytes are as a sum of 255, 256, 257 asks for. */
    private static void sumOfAnswer() {
        int fixed = 0x08 + 0x72 + 0x78 + 0x56 + 0x34 + 0x12 + 1 + 2 + 3 + 4;
        for (int sum = 0x2FF; sum <= 0x301; sum++) {
            MeterBus x = one(100);
            int rest = sum - fixed - 100;
            Check.fill(x, rest / 2, rest - rest / 2);
            x.page(0, 0);
            Check.due("ask", Check.send(x, Check.shortFrame(0x5B, 100)), 23);
            Check.due("S of " + sum, x.typed(21), sum & 255);
            Check.due("16", x.typed(22), 0x16);
        }
    }

    /** "THE BUFFER has at most 300 bytes": it is filled by every number of bytes up to that, and not beyond. */
    private static void bufferFills() {
        for (int n = 1; n <= 8; n++) {
            MeterBus x = new MeterBus();
            int size = 0;
            while (size + n <= 300) {
                size += n;
                Check.due("type " + n, x.type(0x0102030405060708L, n), size);
            }
            int bytes = n;
            Check.dueThrow("beyond 300", x, Check.UNSUPPORTED, () -> x.type(0, bytes));
            if (size < 300) {
                Check.due("what is left", x.type(0x0102030405060708L, 300 - size), 300);
            }
            Check.dueThrow("behind 300", x, Check.UNSUPPORTED, () -> x.type(0, 1));
            Check.due("the last byte", x.typed(299), 8);
            x.keep(299);
            Check.due("a place is free again", x.type(0x77, 1), 300);
            Check.due("its byte", x.typed(299), 0x77);
        }
    }

    /** "PLACES are counted from 0": the first is 0, the last is one less than their number. */
    private static void placesFromZero() {
        MeterBus x = new MeterBus();
        for (int n = 1; n <= 300; n++) {
            x.type(n, 1);
        }
        for (int i = 0; i < 300; i++) {
            Check.due("typed(" + i + ")", x.typed(i), i + 1 & 255);
        }
    }

    /** "The lowest n bytes of a number come behind the buffer, the highest of them first: how many it has." */
    private static void lowestBytes() {
        int[] all = {0x80, 0xFF, 0x01, 0x7F, 0x00, 0xFE, 0x10, 0x8F};
        for (int n = 1; n <= 8; n++) {
            MeterBus x = new MeterBus();
            Check.due("type " + n, x.type(0x80FF017F00FE108FL, n), n);
            Check.due("its bytes", Check.buffer(x), Check.text(Arrays.copyOfRange(all, 8 - n, 8)));
            Check.due("type 1 behind", x.type(Long.MIN_VALUE, 1), n + 1);
            Check.due("its byte", x.typed(n), 0);
        }
    }

    /** "The buffer keeps its first n bytes": every n from none to all. */
    private static void keepsFirst() {
        int[] all = {1, 2, 3, 4, 5, 6, 7, 8, 9};
        for (int n = 0; n <= all.length; n++) {
            MeterBus x = new MeterBus();
            Check.fill(x, all);
            x.keep(n);
            Check.due("keep " + n, Check.buffer(x), Check.text(Arrays.copyOf(all, n)));
            Check.due("one behind", x.type(0xAA, 1), n + 1);
            Check.due("is the new one", x.typed(n), 0xAA);
        }
    }

    /** "NOTHING comes when none answers; a COLLISION when two or more do; else the answer." */
    private static void nothingOrCollision() {
        for (int meters = 0; meters <= 12; meters++) {
            MeterBus x = new MeterBus();
            for (int k = 0; k < meters; k++) {
                x.meter(k, 7, k % 10, k, 0, 0);
            }
            int due = meters == 0 ? 0 : meters == 1 ? 21 : MeterBus.COLLISION;
            Check.due(meters + " answer", Check.send(x, Check.shortFrame(0x5B, 7)), due);
            Check.due(meters + " answer: the buffer", x.count(1), Math.max(due, 0));
            Check.due(meters + " answer: collisions", x.count(5), meters > 1 ? 1 : 0);
            Check.due(meters + " answer: frames", x.count(4), 1);
            for (int k = 0; k < meters; k++) {
                Check.due("each has told its page", x.state(k, 6), 1);
            }
        }
    }
}
