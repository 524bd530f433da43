import java.util.ArrayList;
import java.util.Arrays;
import java.util.List;

/** A second bus, written from the document with plain lists; the master's frames are written out and put on it, too. */
final class TwinBus {
    private static final class Meter {
        private int primary;
        private final int[] address;
        private boolean selected = false;
        private final int[][] pages = new int[3][0];
        private int told = -1;
        private int bit = -1;
        private int access = 0;

        Meter(int primary, int[] address) {
            this.primary = primary;
            this.address = address;
        }

        int pageNumber() {
            return pages[2].length > 0 ? 3 : pages[1].length > 0 ? 2 : 1;
        }

        boolean fits(int[] mask) {
            for (int i = 0; i < 8; i++) {
                boolean whole = mask[i] == 255 || mask[i] == address[i];
                boolean high = mask[i] / 16 == 15 || mask[i] / 16 == address[i] / 16;
                boolean low = mask[i] % 16 == 15 || mask[i] % 16 == address[i] % 16;
                if (i < 4 ? !(high && low) : !whole) {
                    return false;
                }
            }
            return true;
        }

        int[] single() {
            return new int[] {0xE5};
        }

        void forget() {
            told = -1;
            bit = -1;
        }

        int[] hearsShort(int c, int a) {
            if (c == 0x40) {
                forget();
                if (a == 253) {
                    selected = false;
                }
                return single();
            }
            return c == 0x5B ? tells(0) : c == 0x7B ? tells(1) : null;
        }

        int[] tells(int newBit) {
            if (bit == -1) {
                told = 0;
            } else if (bit != newBit) {
                told++;
            }
            if (told >= pageNumber()) {
                told = 0;
            }
            bit = newBit;
            int[] more = told + 1 < pageNumber() ? new int[] {0x1F} : new int[0];
            int[] frame = Check.longFrame(0x08, primary, 0x72,
                    Check.join(address, new int[] {access, 0, 0, 0}, pages[told], more));
            access = (access + 1) % 256;
            return frame;
        }

        int[] hearsLong(int i, int[] data) {
            if (i == 0x50 && data.length == 0) {
                forget();
                return single();
            }
            if (i == 0x51 && data.length == 3 && data[0] == 0x01 && data[1] == 0x7A && data[2] <= 250) {
                primary = data[2];
                return single();
            }
            return null;
        }
    }

    private static final int[] NOTHING = {};

    private final List<Integer> buffer = new ArrayList<>();
    private final Meter[] meters = new Meter[12];
    private final List<int[]> found = new ArrayList<>();
    private final List<String> records = new ArrayList<>();
    private int place = -1;
    private int frames = 0;
    private int collisions = 0;

    private static void refuse(boolean when, RuntimeException e) {
        if (when) {
            throw e;
        }
    }

    int type(long bytes, int n) {
        refuse(n < 1 || n > 8, new IllegalArgumentException());
        refuse(buffer.size() + n > 300, new UnsupportedOperationException());
        String hex = String.format("%016x", bytes).substring(16 - 2 * n);
        for (int i = 0; i < n; i++) {
            buffer.add(Integer.parseInt(hex.substring(2 * i, 2 * i + 2), 16));
        }
        return buffer.size();
    }

    void keep(int n) {
        refuse(n < 0 || n > buffer.size(), new IllegalArgumentException());
        while (buffer.size() > n) {
            buffer.remove(buffer.size() - 1);
        }
    }

    int typed(int i) {
        return buffer.get(i);
    }

    private static boolean isNumber(int k) {
        return k >= 0 && k <= 11;
    }

    void meter(int k, int primary, int ident, int maker, int version, int medium) {
        refuse(!isNumber(k), new IndexOutOfBoundsException());
        refuse(primary < 0 || primary > 250, new IllegalArgumentException());
        String digits = String.format("%08x", ident);
        refuse(!digits.matches("[0-9]{8}"), new IllegalArgumentException());
        int[] address = new int[8];
        for (int i = 0; i < 4; i++) {
            address[i] = Integer.parseInt(digits.substring(6 - 2 * i, 8 - 2 * i), 16);
        }
        refuse(maker < 0 || maker > 65535, new IllegalArgumentException());
        address[4] = maker % 256;
        address[5] = maker / 256;
        address[6] = version;
        address[7] = medium;
        for (int i = 4; i < 8; i++) {
            refuse(address[i] < 0 || address[i] > 254, new IllegalArgumentException());
        }
        for (int i = 0; i < 12; i++) {
            refuse(i != k && meters[i] != null && Arrays.equals(meters[i].address, address), new IllegalArgumentException());
        }
        meters[k] = new Meter(primary, address);
    }

    boolean remove(int k) {
        refuse(!isNumber(k), new IndexOutOfBoundsException());
        boolean was = meters[k] != null;
        meters[k] = null;
        return was;
    }

    int page(int k, int i) {
        refuse(!isNumber(k) || meters[k] == null || i < 0 || i > 2, new IndexOutOfBoundsException());
        refuse(buffer.size() > 60, new UnsupportedOperationException());
        meters[k].pages[i] = bytes();
        buffer.clear();
        return meters[k].pageNumber();
    }

    int state(int k, int what) {
        refuse(!isNumber(k) || what < 0 || what > 6, new IndexOutOfBoundsException());
        Meter m = meters[k];
        if (m == null) {
            return 0;
        }
        return new int[] {1, m.primary, m.selected ? 1 : 0, m.pageNumber(), m.told, m.bit, m.access}[what];
    }

    private int[] bytes() {
        return buffer.stream().mapToInt(b -> b).toArray();
    }

    /** What comes; null is a collision. */
    private int[] put(int[] frame) {
        frames++;
        List<int[]> answers = isShort(frame) ? putShort(frame[1], frame[2]) : isLong(frame) ? putLong(frame) : List.of();
        if (answers.size() > 1) {
            collisions++;
            return null;
        }
        return answers.isEmpty() ? NOTHING : answers.get(0);
    }

    private static boolean isShort(int[] f) {
        return f.length == 5 && f[0] == 0x10 && f[3] == (f[1] + f[2]) % 256 && f[4] == 0x16;
    }

    private static boolean isLong(int[] f) {
        if (f.length < 9 || f.length > 258 || f[1] != f.length - 6) {
            return false;
        }
        return Arrays.equals(f, Check.longFrame(f[4], f[5], f[6], Arrays.copyOfRange(f, 7, f.length - 2)));
    }

    private boolean isFor(Meter m, int a) {
        return m != null && (a == m.primary || a == 253 && m.selected || a == 254 || a == 255);
    }

    private List<int[]> putShort(int c, int a) {
        List<int[]> answers = new ArrayList<>();
        for (Meter m : meters) {
            int[] answer = isFor(m, a) ? m.hearsShort(c, a) : null;
            if (answer != null && a != 255) {
                answers.add(answer);
            }
        }
        return answers;
    }

    private List<int[]> putLong(int[] f) {
        List<int[]> answers = new ArrayList<>();
        if (f[4] != 0x53 && f[4] != 0x73) {
            return answers;
        }
        int[] data = Arrays.copyOfRange(f, 7, f.length - 2);
        boolean select = f[6] == 0x52 && data.length == 8 && f[5] == 253;
        for (Meter m : meters) {
            int[] answer = null;
            if (select && m != null) {
                m.selected = m.fits(data);
                answer = m.selected ? m.single() : null;
            } else if (isFor(m, f[5])) {
                answer = m.hearsLong(f[6], data);
            }
            if (answer != null && f[5] != 255) {
                answers.add(answer);
            }
        }
        return answers;
    }

    int send() {
        int[] comes = put(bytes());
        buffer.clear();
        if (comes == null) {
            return -2;
        }
        for (int b : comes) {
            buffer.add(b);
        }
        return comes.length;
    }

    int search() {
        found.clear();
        int[] mask = new int[16];
        Arrays.fill(mask, 15);
        probe(0, mask);
        return found.size();
    }

    private static int[] select(int[] address) {
        return Check.longFrame(0x53, 253, 0x52, address);
    }

    /** The mask's four bits each, in the order in which PARTS has them. */
    private static int[] frameOf(int[] mask) {
        int[] address = new int[8];
        for (int i = 0; i < 8; i++) {
            int from = i < 4 ? 6 - 2 * i : 2 * i;
            address[i] = mask[from] * 16 + mask[from + 1];
        }
        return select(address);
    }

    private void probe(int n, int[] mask) {
        int[] comes = put(frameOf(mask));
        if (comes == null) {
            for (int value = 0; value < (n < 8 ? 10 : 255); value++) {
                set(mask, n, value);
                probe(n + 1, mask);
            }
            set(mask, n, n < 8 ? 15 : 255);
        } else if (comes.length > 0) {
            put(Check.shortFrame(0x40, 253));
            put(frameOf(mask));
            found.add(Arrays.copyOfRange(put(Check.shortFrame(0x5B, 253)), 7, 15));
        }
    }

    private static void set(int[] mask, int n, int value) {
        if (n < 8) {
            mask[n] = value;
        } else {
            mask[2 * n - 8] = value / 16;
            mask[2 * n - 7] = value % 16;
        }
    }

    int found(int k, int what) {
        return found.get(k)[what];
    }

    int readOut(int k) {
        int[] select = select(found.get(k));
        records.clear();
        place = -1;
        if (!Arrays.equals(put(select), new int[] {0xE5})) {
            return -1;
        }
        put(Check.shortFrame(0x40, 253));
        put(select);
        boolean more = true;
        for (int asked = 0; more && asked < 10; asked++) {
            TwinDecoder decoder = new TwinDecoder(put(Check.shortFrame(asked % 2 == 0 ? 0x7B : 0x5B, 253)), records.size());
            int fault = decoder.decode();
            place = decoder.place();
            if (fault < 0) {
                records.clear();
                return -2 + fault;
            }
            records.addAll(decoder.records());
            more = decoder.endsByMore();
        }
        return records.size();
    }

    int decode() {
        TwinDecoder decoder = new TwinDecoder(bytes(), records.size());
        int fault = decoder.decode();
        place = decoder.place();
        if (fault < 0) {
            return fault;
        }
        records.addAll(decoder.records());
        return records.size();
    }

    int place() {
        return place;
    }

    int clear() {
        int had = records.size();
        records.clear();
        return had;
    }

    /** Records are texts here: what stands before the colon, and behind it. */
    long record(int i, int what) {
        refuse(what < 0, new IndexOutOfBoundsException());
        String[] row = records.get(i).split(" : ")[0].split(" ");
        refuse(what >= row.length, new IndexOutOfBoundsException());
        return Long.parseLong(row[what]);
    }

    int text(int i, int j) {
        String[] parts = records.get(i).split(" : ");
        String[] row = parts.length == 2 ? parts[1].split(" ") : new String[0];
        refuse(j < 0 || j >= row.length, new IndexOutOfBoundsException());
        return Integer.parseInt(row[j]);
    }

    int count(int what) {
        refuse(what < 0 || what > 5, new IndexOutOfBoundsException());
        int there = 0;
        for (Meter m : meters) {
            there += m == null ? 0 : 1;
        }
        return new int[] {there, buffer.size(), found.size(), records.size(), frames, collisions}[what];
    }

    /** All that Check.seen() tells of the class. */
    String seen() {
        StringBuilder all = new StringBuilder("buffer ").append(Check.text(bytes())).append("| meters ");
        for (int k = 0; k < 12; k++) {
            for (int what = 0; what < 7; what++) {
                all.append(state(k, what)).append(' ');
            }
            all.append("; ");
        }
        all.append("| found ");
        for (int[] address : found) {
            all.append(Check.text(address)).append("; ");
        }
        all.append("| records ");
        for (String record : records) {
            all.append(record).append("; ");
        }
        all.append("| place ").append(place).append(" | counts ");
        for (int what = 0; what < 6; what++) {
            all.append(count(what)).append(' ');
        }
        return all.toString();
    }
}
