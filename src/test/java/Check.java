import java.util.function.LongSupplier;

/**
 * What the tests share: due answers, due exceptions, frames, and all that can be seen of an object. Some of the
 * runs are longer than the 512 calls that the document speaks of; the class does not count calls.
 */
final class Check {
    static final Class<? extends RuntimeException> INDEX = IndexOutOfBoundsException.class;
    static final Class<? extends RuntimeException> ARGUMENT = IllegalArgumentException.class;
    static final Class<? extends RuntimeException> UNSUPPORTED = UnsupportedOperationException.class;

    private static int wrong = 0;

    private Check() {
    }

    static void due(String what, long got, long want) {
        if (got != want) {
            wrong++;
            System.out.println(what + " answered " + got + ", due is " + want);
        }
    }

    static void due(String what, String got, String want) {
        if (!got.equals(want)) {
            wrong++;
            System.out.println(what + " answered " + got + ", due is " + want);
        }
    }

    static int bit(boolean b) {
        return b ? 1 : 0;
    }

    /** The call throws just this class, and nothing that can be seen of the object changes. */
    static void dueThrow(String what, MeterBus x, Class<? extends RuntimeException> due, LongSupplier call) {
        String before = seen(x);
        String got;
        try {
            got = "the answer " + call.getAsLong();
        } catch (RuntimeException e) {
            got = e.getClass().getName();
        }
        due(what, got, due.getName());
        due(what + ": all that is seen behind it", seen(x), before);
    }

    static void dueThrow(String what, MeterBus x, Class<? extends RuntimeException> due, Runnable call) {
        dueThrow(what, x, due, () -> {
            call.run();
            return 0;
        });
    }

    static void end() {
        System.out.println(wrong == 0 ? "all answers are as due" : wrong + " answers are not as due");
        if (wrong != 0) {
            System.exit(1);
        }
    }

    static void fill(MeterBus x, int... bytes) {
        x.keep(0);
        for (int from = 0; from < bytes.length; from += 8) {
            int n = Math.min(8, bytes.length - from);
            long number = 0;
            for (int i = from; i < from + n; i++) {
                number = number << 8 | bytes[i];
            }
            x.type(number, n);
        }
    }

    static int[] bytes(int... bytes) {
        return bytes;
    }

    static int[] join(int[]... rows) {
        int n = 0;
        for (int[] row : rows) {
            n += row.length;
        }
        int[] all = new int[n];
        int at = 0;
        for (int[] row : rows) {
            System.arraycopy(row, 0, all, at, row.length);
            at += row.length;
        }
        return all;
    }

    static int[] repeat(int times, int... row) {
        int[] all = new int[0];
        for (int i = 0; i < times; i++) {
            all = join(all, row);
        }
        return all;
    }

    static int[] shortFrame(int c, int a) {
        return bytes(0x10, c, a, c + a & 255, 0x16);
    }

    static int[] longFrame(int c, int a, int i, int... data) {
        int length = 3 + data.length;
        int sum = c + a + i;
        for (int b : data) {
            sum += b;
        }
        return join(bytes(0x68, length, length, 0x68, c, a, i), data, bytes(sum & 255, 0x16));
    }

    static int[] answer(int... records) {
        return longFrame(0x08, 1, 0x72, join(bytes(0x78, 0x56, 0x34, 0x12, 1, 2, 3, 4, 0, 0, 0, 0), records));
    }

    static int send(MeterBus x, int... frame) {
        fill(x, frame);
        return x.send();
    }

    static int decode(MeterBus x, int... frame) {
        fill(x, frame);
        return x.decode();
    }

    static void dueFault(String what, int fault, int place, int... frame) {
        MeterBus x = new MeterBus();
        due("a first record", decode(x, answer(0x01, 0x13, 0x07)), 1);
        due(what, decode(x, frame), -fault);
        due(what + ": its place", x.place(), place);
        due(what + ": records", x.count(3), 1);
        due(what + ": value", x.record(0, 0), 7);
        due(what + ": the buffer stays", buffer(x), text(frame));
    }

    static String buffer(MeterBus x) {
        int[] row = new int[x.count(1)];
        for (int i = 0; i < row.length; i++) {
            row[i] = x.typed(i);
        }
        return text(row);
    }

    static String text(int... bytes) {
        StringBuilder hex = new StringBuilder();
        for (int b : bytes) {
            hex.append(String.format("%02X ", b));
        }
        return hex.toString();
    }

    static String states(MeterBus x) {
        StringBuilder all = new StringBuilder();
        for (int k = 0; k < 12; k++) {
            for (int what = 0; what < 7; what++) {
                all.append(x.state(k, what)).append(' ');
            }
            all.append("; ");
        }
        return all.toString();
    }

    static String founds(MeterBus x) {
        StringBuilder all = new StringBuilder();
        for (int k = 0; k < x.count(2); k++) {
            for (int what = 0; what < 8; what++) {
                all.append(String.format("%02X ", x.found(k, what)));
            }
            all.append("; ");
        }
        return all.toString();
    }

    static String record(MeterBus x, int i) {
        StringBuilder all = new StringBuilder();
        for (int what = 0; what < 7 + x.record(i, 6); what++) {
            all.append(x.record(i, what)).append(' ');
        }
        for (int j = 0; hasLetter(x, i, j); j++) {
            all.append(j == 0 ? ": " : " ").append(x.text(i, j));
        }
        return all.toString().trim();
    }

    private static boolean hasLetter(MeterBus x, int i, int j) {
        try {
            return x.text(i, j) >= 0;
        } catch (IndexOutOfBoundsException e) {
            return false;
        }
    }

    static String records(MeterBus x) {
        StringBuilder all = new StringBuilder();
        for (int i = 0; i < x.count(3); i++) {
            all.append(record(x, i)).append("; ");
        }
        return all.toString();
    }

    static String counts(MeterBus x) {
        StringBuilder all = new StringBuilder();
        for (int what = 0; what < 6; what++) {
            all.append(x.count(what)).append(' ');
        }
        return all.toString();
    }

    /** What is seen, and what every meter tells then: this changes the object, so it comes last in a test. */
    static String told(MeterBus x) {
        StringBuilder all = new StringBuilder(seen(x));
        for (int k = 0; k < 12; k++) {
            if (x.state(k, 0) == 1) {
                send(x, shortFrame(x.state(k, 5) == 1 ? 0x7B : 0x5B, x.state(k, 1)));
                all.append("| the page told last of ").append(k).append(": ").append(buffer(x));
            }
        }
        x.search();
        for (int k = 0; k < x.count(2); k++) {
            int[] address = new int[8];
            for (int what = 0; what < 8; what++) {
                address[what] = x.found(k, what);
            }
            send(x, longFrame(0x53, 253, 0x52, address));
            send(x, shortFrame(0x40, 253));
            send(x, longFrame(0x53, 253, 0x52, address));
            for (int i = 0; i < 4; i++) {
                send(x, shortFrame(i % 2 == 0 ? 0x5B : 0x7B, 253));
                all.append("| ").append(buffer(x));
            }
        }
        return all.append(seen(x)).toString();
    }

    static String seen(MeterBus x) {
        return "buffer " + buffer(x) + "| meters " + states(x) + "| found " + founds(x)
                + "| records " + records(x) + "| place " + x.place() + " | counts " + counts(x);
    }
}
