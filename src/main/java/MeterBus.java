/** A bus with one master and many meters; the promises that it keeps stand in ../shared/DOC.md. */
public final class MeterBus {
    public static final int NONE = -1, COLLISION = -2;

    private static final int METERS = 12, PAGES = 3, PAGE_BYTES = 60, BUFFER_BYTES = 300;
    private static final int ADDRESS_BYTES = 8, HIGHEST_PRIMARY = 250, HIGHEST_ADDRESS_BYTE = 254;
    private static final int TO_SELECTED = 253, TO_ALL_SILENTLY = 255;

    private static final int SINGLE = 0xE5, SHORT_START = 0x10, LONG_START = 0x68, STOP = 0x16;
    private static final int SHORT_BYTES = 5, LONG_EXTRA_BYTES = 6, LOWEST_LENGTH = 3, HIGHEST_LENGTH = 252;
    private static final int C_PLACE = 4, A_PLACE = 5, I_PLACE = 6, DATA_PLACE = 7;
    private static final int C_RESET = 0x40, C_ASK_0 = 0x5B, C_ASK_1 = 0x7B;
    private static final int C_SEND_0 = 0x53, C_SEND_1 = 0x73, C_ANSWER = 0x08;
    private static final int I_FORGET = 0x50, I_PRIMARY = 0x51, I_SELECT = 0x52, I_ANSWER = 0x72;

    private static final long ALL_WILD = -1L;
    private static final int PARTS = 12, DIGIT_PARTS = 8, DIGIT_VALUES = 10, BYTE_VALUES = 255;
    private static final int MOST_QUESTIONS = 10;

    private static final int LOWEST_ANSWER_LENGTH = 0x0F, RECORDS_PLACE = 19;
    private static final int MOST_RECORDS = 100, MOST_EXTENSIONS = 10;
    private static final int MAKERS_OWN = 0x0F, MORE = 0x1F, FILLER = 0x2F;
    private static final int CODE_TEXT = 13, CODE_SPECIAL = 15;
    private static final int BAD_FRAME = 1, BAD_SUM = 2, BAD_IDENT = 3, BYTE_LACKS = 4, TOO_MANY_DIFES = 5;
    private static final int TOO_MANY_VIFES = 6, BAD_DIGIT = 7, BAD_SIZE = 8, BAD_DIF = 9, TOO_MANY_RECORDS = 10;

    private final Row buffer = new Row();
    private final Bus bus = new Bus();
    private final Records list = new Records();
    private final Decoder decoder = new Decoder(buffer, list);
    private final long[] foundAddresses = new long[METERS];
    private int foundNumber = 0;

    public MeterBus() {
    }

    public int type(long bytes, int n) throws IllegalArgumentException, UnsupportedOperationException {
        if (n < 1 || n > 8) {
            throw new IllegalArgumentException("n is not 1 .. 8");
        }
        if (buffer.size() + n > BUFFER_BYTES) {
            throw new UnsupportedOperationException("the buffer would have more than 300 bytes");
        }
        for (int i = n - 1; i >= 0; i--) {
            buffer.add((int) (bytes >>> (8 * i)));
        }
        return buffer.size();
    }

    public void keep(int n) throws IllegalArgumentException {
        if (n < 0 || n > buffer.size()) {
            throw new IllegalArgumentException("the buffer has not so many bytes");
        }
        buffer.cutTo(n);
    }

    public int typed(int i) throws IndexOutOfBoundsException {
        if (i < 0 || i >= buffer.size()) {
            throw new IndexOutOfBoundsException("no such place");
        }
        return buffer.at(i);
    }

    public void meter(int k, int primary, int ident, int maker, int version, int medium)
            throws IndexOutOfBoundsException, IllegalArgumentException {
        if (!isMeterNumber(k)) {
            throw new IndexOutOfBoundsException("no such meter");
        }
        if (primary < 0 || primary > HIGHEST_PRIMARY || !areDigits(ident)) {
            throw new IllegalArgumentException("the primary address or the ident is not as said");
        }
        if (!isAddressByte(maker & 255) || !isAddressByte(maker >> 8)
                || !isAddressByte(version) || !isAddressByte(medium)) {
            throw new IllegalArgumentException("maker, version or medium is not as said");
        }
        long address = ident & 0xFFFFFFFFL | (long) maker << 32 | (long) version << 48 | (long) medium << 56;
        if (bus.hasAnother(k, address)) {
            throw new IllegalArgumentException("another meter has that secondary address");
        }
        bus.plug(k, new Meter(primary, address));
    }

    public boolean remove(int k) throws IndexOutOfBoundsException {
        if (!isMeterNumber(k)) {
            throw new IndexOutOfBoundsException("no such meter");
        }
        boolean was = bus.meterAt(k) != null;
        bus.plug(k, null);
        return was;
    }

    public int page(int k, int i) throws IndexOutOfBoundsException, UnsupportedOperationException {
        Meter meter = bus.meterAt(k);
        if (meter == null || i < 0 || i >= PAGES) {
            throw new IndexOutOfBoundsException("no such meter or page");
        }
        if (buffer.size() > PAGE_BYTES) {
            throw new UnsupportedOperationException("the buffer has more than 60 bytes");
        }
        meter.setPage(i, buffer);
        buffer.cutTo(0);
        return meter.pageNumber();
    }

    public int state(int k, int what) throws IndexOutOfBoundsException {
        if (!isMeterNumber(k) || what < 0 || what > 6) {
            throw new IndexOutOfBoundsException("no such meter or what");
        }
        Meter meter = bus.meterAt(k);
        return meter == null ? 0 : meter.detail(what);
    }

    public int send() {
        int comes = bus.put(buffer);
        buffer.become(bus.lastAnswer());
        return comes;
    }

    public int search() {
        foundNumber = 0;
        probe(0, ALL_WILD);
        return foundNumber;
    }

    public int found(int k, int what) throws IndexOutOfBoundsException {
        if (!isFoundOne(k) || what < 0 || what >= ADDRESS_BYTES) {
            throw new IndexOutOfBoundsException("no such found one or byte");
        }
        return (int) (foundAddresses[k] >>> (8 * what)) & 255;
    }

    public int readOut(int k) throws IndexOutOfBoundsException {
        if (!isFoundOne(k)) {
            throw new IndexOutOfBoundsException("no such found one");
        }
        list.cutTo(0);
        decoder.forgetFault();
        if (!isSelected(foundAddresses[k])) {
            return NONE;
        }
        boolean more = true;
        for (int i = 0; i < MOST_QUESTIONS && more; i++) {
            if (bus.putShort(i % 2 == 0 ? C_ASK_1 : C_ASK_0, TO_SELECTED) <= 0) {
                list.cutTo(0);
                return NONE;
            }
            if (!decoder.reads(bus.lastAnswer())) {
                list.cutTo(0);
                return -2 - decoder.lastFault();
            }
            more = decoder.endsByMore();
        }
        return list.size();
    }

    public int decode() {
        return decoder.reads(buffer) ? list.size() : -decoder.lastFault();
    }

    public int place() {
        return decoder.lastFaultPlace();
    }

    public int clear() {
        int had = list.size();
        list.cutTo(0);
        return had;
    }

    public long record(int i, int what) throws IndexOutOfBoundsException {
        Reading reading = list.at(i);
        if (reading == null || what < 0 || what >= 7 + reading.vifNumber()) {
            throw new IndexOutOfBoundsException("no such record or what");
        }
        return reading.detail(what);
    }

    public int text(int i, int j) throws IndexOutOfBoundsException {
        Reading reading = list.at(i);
        if (reading == null || j < 0 || j >= reading.textSize()) {
            throw new IndexOutOfBoundsException("no such record or byte of a text");
        }
        return reading.textAt(j);
    }

    public int count(int what) throws IndexOutOfBoundsException {
        switch (what) {
            case 0: return bus.meterNumber();
            case 1: return buffer.size();
            case 2: return foundNumber;
            case 3: return list.size();
            case 4: return bus.frameNumber();
            case 5: return bus.collisionNumber();
            default: throw new IndexOutOfBoundsException("no such what");
        }
    }

    /** PROBE n: secondary addresses differ from one another, so behind the last part there is no collision. */
    private void probe(int n, long mask) {
        int comes = bus.putSelect(mask);
        if (comes == 1) {
            resetSelected(mask);
            addFound();
        } else if (comes == COLLISION && n < PARTS) {
            int values = n < DIGIT_PARTS ? DIGIT_VALUES : BYTE_VALUES;
            for (int value = 0; value < values; value++) {
                probe(n + 1, withPart(mask, n, value));
            }
        }
    }

    private static long withPart(long mask, int n, int value) {
        if (n < DIGIT_PARTS) {
            int shift = 4 * (DIGIT_PARTS - 1 - n);
            return mask & ~(15L << shift) | (long) value << shift;
        }
        int shift = 32 + 8 * (n - DIGIT_PARTS);
        return mask & ~(255L << shift) | (long) value << shift;
    }

    private void addFound() {
        int comes = bus.putShort(C_ASK_0, TO_SELECTED);
        if (comes > 0 && foundNumber < METERS) {
            foundAddresses[foundNumber] = bus.lastAnswer().addressAt(DATA_PLACE);
            foundNumber++;
        }
    }

    private boolean isSelected(long address) {
        boolean comes = bus.putSelect(address) == 1;
        if (comes) {
            resetSelected(address);
        }
        return comes;
    }

    /** The reset takes the selection away, too, so it is made again. */
    private void resetSelected(long mask) {
        bus.putShort(C_RESET, TO_SELECTED);
        bus.putSelect(mask);
    }

    private boolean isFoundOne(int k) {
        return k >= 0 && k < foundNumber && k < METERS;
    }

    private static boolean isMeterNumber(int k) {
        return k >= 0 && k < METERS;
    }

    private static boolean isAddressByte(int b) {
        return b >= 0 && b <= HIGHEST_ADDRESS_BYTE;
    }

    /** Whether each four bits are 0 .. 9. */
    private static boolean areDigits(int bits) {
        for (int shift = 0; shift < 32; shift += 4) {
            if ((bits >>> shift & 15) > 9) {
                return false;
            }
        }
        return true;
    }

    /** Bytes 0 .. 255, as many as the buffer can have. */
    private static final class Row {
        private final int[] bytes = new int[BUFFER_BYTES];
        private int size = 0;

        int size() {
            return size;
        }

        /** NONE where there is no byte, so that a frame that is too short fails as a wrong one does. */
        int at(int i) {
            return i >= 0 && i < size ? bytes[i] : NONE;
        }

        void add(int b) {
            if (size < BUFFER_BYTES) {
                bytes[size] = b & 255;
                size++;
            }
        }

        void cutTo(int n) {
            if (n >= 0 && n < size) {
                size = n;
            }
        }

        void become(Row other) {
            size = 0;
            for (int i = 0; i < other.size; i++) {
                add(other.bytes[i]);
            }
        }

        void becomeSingle() {
            size = 0;
            add(SINGLE);
        }

        void addAddress(long address) {
            for (int i = 0; i < ADDRESS_BYTES; i++) {
                add((int) (address >>> (8 * i)));
            }
        }

        long addressAt(int from) {
            long address = 0;
            for (int i = ADDRESS_BYTES - 1; i >= 0; i--) {
                address = address << 8 | at(from + i) & 255;
            }
            return address;
        }

        int sum(int from, int end) {
            int sum = 0;
            for (int i = from; i < end && i < size; i++) {
                sum += at(i);
            }
            return sum & 255;
        }

        boolean isShortFrame() {
            return size == SHORT_BYTES && at(0) == SHORT_START && at(3) == sum(1, 3) && at(4) == STOP;
        }

        boolean isLongFrame() {
            int length = at(1);
            return length >= LOWEST_LENGTH && length <= HIGHEST_LENGTH && size == length + LONG_EXTRA_BYTES
                    && at(0) == LONG_START && at(2) == length && at(3) == LONG_START
                    && at(length + 4) == sum(C_PLACE, length + 4) && at(length + 5) == STOP;
        }

        int dataSize() {
            return size - LONG_EXTRA_BYTES - LOWEST_LENGTH;
        }
    }

    /** One meter; its secondary address is a number whose lowest byte is the first one. */
    private static final class Meter {
        private final long address;
        private int primary;
        private boolean selected = false;
        private final int[][] pages = new int[PAGES][PAGE_BYTES];
        private final int[] pageSizes = new int[PAGES];
        private int pageTold = NONE;
        private int bit = NONE;
        private int access = 0;

        Meter(int primary, long address) {
            this.primary = primary;
            this.address = address;
        }

        boolean hasAddress(long other) {
            return address == other;
        }

        void setPage(int i, Row row) {
            if (i < 0 || i >= PAGES) {
                return;
            }
            int size = Math.min(row.size(), PAGE_BYTES);
            for (int j = 0; j < size; j++) {
                pages[i][j] = row.at(j);
            }
            pageSizes[i] = size;
        }

        int pageNumber() {
            for (int i = PAGES - 1; i > 0; i--) {
                if (pageSizes[i] > 0) {
                    return i + 1;
                }
            }
            return 1;
        }

        int detail(int what) {
            switch (what) {
                case 1: return primary;
                case 2: return selected ? 1 : 0;
                case 3: return pageNumber();
                case 4: return pageTold;
                case 5: return bit;
                case 6: return access;
                default: return 1;
            }
        }

        boolean isMeant(int a) {
            if (a <= HIGHEST_PRIMARY) {
                return a == primary;
            }
            return a == TO_SELECTED ? selected : a > TO_SELECTED;
        }

        /** Whether it answers, then by the row. */
        boolean looksAtMask(long mask, long cared, Row answer) {
            selected = ((mask ^ address) & cared) == 0;
            if (selected) {
                answer.becomeSingle();
            }
            return selected;
        }

        boolean hearsShort(int c, int a, Row answer) {
            if (c == C_RESET) {
                forget();
                selected = selected && a != TO_SELECTED;
                answer.becomeSingle();
                return true;
            }
            if (c == C_ASK_0 || c == C_ASK_1) {
                int newBit = c >> 5 & 1;
                pageTold = pageToTell(newBit);
                bit = newBit;
                writeAnswer(answer);
                access = access + 1 & 255;
                return true;
            }
            return false;
        }

        boolean hearsLong(Row frame, Row answer) {
            int i = frame.at(I_PLACE);
            if (i == I_FORGET && frame.dataSize() == 0) {
                forget();
                answer.becomeSingle();
                return true;
            }
            if (i == I_PRIMARY && frame.dataSize() == 3 && frame.at(DATA_PLACE) == 0x01
                    && frame.at(DATA_PLACE + 1) == 0x7A && frame.at(DATA_PLACE + 2) <= HIGHEST_PRIMARY) {
                primary = frame.at(DATA_PLACE + 2);
                answer.becomeSingle();
                return true;
            }
            return false;
        }

        private void forget() {
            pageTold = NONE;
            bit = NONE;
        }

        private int pageToTell(int newBit) {
            int i = bit == NONE ? 0 : bit == newBit ? pageTold : pageTold + 1;
            return i < pageNumber() ? i : 0;
        }

        private void writeAnswer(Row answer) {
            int i = pageTold >= 0 && pageTold < PAGES ? pageTold : 0;
            boolean more = i + 1 < pageNumber();
            int length = LOWEST_ANSWER_LENGTH + pageSizes[i] + (more ? 1 : 0);
            answer.cutTo(0);
            answer.add(LONG_START);
            answer.add(length);
            answer.add(length);
            answer.add(LONG_START);
            answer.add(C_ANSWER);
            answer.add(primary);
            answer.add(I_ANSWER);
            answer.addAddress(address);
            answer.add(access);
            for (int j = 0; j < 3; j++) {
                answer.add(0);
            }
            for (int j = 0; j < pageSizes[i] && j < PAGE_BYTES; j++) {
                answer.add(pages[i][j]);
            }
            if (more) {
                answer.add(MORE);
            }
            answer.add(answer.sum(C_PLACE, answer.size()));
            answer.add(STOP);
        }
    }

    /** The meters that are there (null: none), what they answer, and what is counted of it. */
    private static final class Bus {
        private final Meter[] meters = new Meter[METERS];
        private final Row answer = new Row();
        private int frames = 0;
        private int collisions = 0;

        Meter meterAt(int k) {
            return k >= 0 && k < METERS ? meters[k] : null;
        }

        void plug(int k, Meter meter) {
            if (k >= 0 && k < METERS) {
                meters[k] = meter;
            }
        }

        boolean hasAnother(int k, long address) {
            for (int i = 0; i < METERS; i++) {
                if (i != k && meters[i] != null && meters[i].hasAddress(address)) {
                    return true;
                }
            }
            return false;
        }

        int meterNumber() {
            int number = 0;
            for (int i = 0; i < METERS; i++) {
                if (meters[i] != null) {
                    number++;
                }
            }
            return number;
        }

        int frameNumber() {
            return frames;
        }

        int collisionNumber() {
            return collisions;
        }

        /** Empty behind nothing and behind a collision. */
        Row lastAnswer() {
            return answer;
        }

        /** How many bytes come, 0 or COLLISION. */
        int put(Row frame) {
            if (frame.isShortFrame()) {
                return putShort(frame.at(1), frame.at(2));
            }
            if (frame.isLongFrame() && (frame.at(C_PLACE) == C_SEND_0 || frame.at(C_PLACE) == C_SEND_1)) {
                return putSendingFrame(frame);
            }
            frames++;
            return outcome(0);
        }

        /** The master's own short frames and masks are sound, so they come here without being written out. */
        int putShort(int c, int a) {
            frames++;
            int answers = 0;
            for (int k = 0; k < METERS; k++) {
                Meter meter = meters[k];
                if (meter != null && meter.isMeant(a) && meter.hearsShort(c, a, answer)) {
                    answers++;
                }
            }
            return outcome(a == TO_ALL_SILENTLY ? 0 : answers);
        }

        int putSelect(long mask) {
            frames++;
            long cared = caredBits(mask);
            int answers = 0;
            for (int k = 0; k < METERS; k++) {
                Meter meter = meters[k];
                if (meter != null && meter.looksAtMask(mask, cared, answer)) {
                    answers++;
                }
            }
            return outcome(answers);
        }

        private int putSendingFrame(Row frame) {
            int a = frame.at(A_PLACE);
            if (frame.at(I_PLACE) == I_SELECT && frame.dataSize() == ADDRESS_BYTES && a == TO_SELECTED) {
                return putSelect(frame.addressAt(DATA_PLACE));
            }
            frames++;
            int answers = 0;
            for (int k = 0; k < METERS; k++) {
                Meter meter = meters[k];
                if (meter != null && meter.isMeant(a) && meter.hearsLong(frame, answer)) {
                    answers++;
                }
            }
            return outcome(a == TO_ALL_SILENTLY ? 0 : answers);
        }

        /** The bits of a mask that are no wildcard's. */
        private static long caredBits(long mask) {
            long cared = 0;
            for (int shift = 0; shift < 32; shift += 4) {
                if ((mask >>> shift & 15) != 15) {
                    cared |= 15L << shift;
                }
            }
            for (int shift = 32; shift < 64; shift += 8) {
                if ((mask >>> shift & 255) != 255) {
                    cared |= 255L << shift;
                }
            }
            return cared;
        }

        private int outcome(int answers) {
            if (answers == 1) {
                return answer.size();
            }
            answer.cutTo(0);
            if (answers == 0) {
                return 0;
            }
            collisions++;
            return COLLISION;
        }
    }

    /** One record; it is written anew for each that comes to its place in the list. */
    private static final class Reading {
        private long value = 0;
        private int code = 0;
        private int function = 0;
        private long storage = 0;
        private int tariff = 0;
        private int unit = 0;
        private final int[] vifs = new int[1 + MOST_EXTENSIONS];
        private int vifNumber = 0;
        private int[] letters = null;
        private int letterNumber = 0;

        void begin(int dif) {
            value = 0;
            code = dif & 15;
            function = dif >> 4 & 3;
            storage = dif >> 6 & 1;
            tariff = 0;
            unit = 0;
            vifNumber = 0;
            letterNumber = 0;
        }

        void addDife(int i, int dife) {
            storage |= (long) (dife & 15) << (1 + 4 * i);
            tariff |= (dife >> 4 & 3) << (2 * i);
            unit |= (dife >> 6 & 1) << i;
        }

        void addVif(int vif) {
            if (vifNumber < vifs.length) {
                vifs[vifNumber] = vif;
                vifNumber++;
            }
        }

        void setValue(long newValue) {
            value = newValue;
        }

        /** A row that was made for an earlier record serves again where it is long enough. */
        void setText(Row frame, int from, int size) {
            if (size > 0 && (letters == null || letters.length < size)) {
                letters = new int[size];
            }
            for (int j = 0; j < size && letters != null && j < letters.length; j++) {
                letters[j] = frame.at(from + j);
            }
            letterNumber = size;
            value = size;
        }

        int codeOf() {
            return code;
        }

        int vifNumber() {
            return vifNumber;
        }

        int textSize() {
            return letterNumber;
        }

        int textAt(int j) {
            return letters != null && j >= 0 && j < letters.length ? letters[j] : NONE;
        }

        long detail(int what) {
            switch (what) {
                case 0: return value;
                case 1: return code;
                case 2: return function;
                case 3: return storage;
                case 4: return tariff;
                case 5: return unit;
                case 6: return vifNumber;
                default: return what >= 7 && what - 7 < vifs.length ? vifs[what - 7] : NONE;
            }
        }
    }

    /** The list, and one place behind its last where the next record is drafted. */
    private static final class Records {
        private final Reading[] readings = new Reading[MOST_RECORDS + 1];
        private int size = 0;

        int size() {
            return size;
        }

        Reading at(int i) {
            return i >= 0 && i < size && i < readings.length ? readings[i] : null;
        }

        Reading draft() {
            int i = Math.min(size, MOST_RECORDS);
            if (readings[i] == null) {
                readings[i] = new Reading();
            }
            return readings[i];
        }

        /** Whether there was room for the draft. */
        boolean takesDraft() {
            if (size >= MOST_RECORDS) {
                return false;
            }
            size++;
            return true;
        }

        void cutTo(int n) {
            if (n >= 0 && n < size) {
                size = n;
            }
        }
    }

    /** Reads a long frame into the list. Its steps answer whether all is well; if not, the fault is noted. */
    private static final class Decoder {
        private final Records list;
        private Row frame;
        private int at = 0;
        private int end = 0;
        private int fault = 0;
        private int faultPlace = NONE;
        private boolean more = false;

        Decoder(Row frame, Records list) {
            this.frame = frame;
            this.list = list;
        }

        int lastFault() {
            return fault;
        }

        int lastFaultPlace() {
            return faultPlace;
        }

        boolean endsByMore() {
            return more;
        }

        void forgetFault() {
            fault = 0;
            faultPlace = NONE;
        }

        boolean reads(Row newFrame) {
            frame = newFrame;
            more = false;
            forgetFault();
            int before = list.size();
            boolean well = frameIsWell() && sumIsWell() && identIsWell();
            at = RECORDS_PLACE;
            for (int i = 0; i < BUFFER_BYTES && well && at < end; i++) {
                well = readItem();
            }
            if (!well) {
                list.cutTo(before);
            }
            return well;
        }

        private boolean wrong(int newFault, int newPlace) {
            fault = newFault;
            faultPlace = newPlace;
            return false;
        }

        /** A byte that is not there stands at n, as all before it are there. */
        private boolean frameIsWell() {
            int length = frame.at(1);
            if (frame.at(0) != LONG_START) {
                return wrong(BAD_FRAME, 0);
            }
            if (length < LOWEST_ANSWER_LENGTH || length > HIGHEST_LENGTH) {
                return wrong(BAD_FRAME, 1);
            }
            if (frame.at(2) != length) {
                return wrong(BAD_FRAME, 2);
            }
            if (frame.at(3) != LONG_START) {
                return wrong(BAD_FRAME, 3);
            }
            if (frame.size() != length + LONG_EXTRA_BYTES) {
                return wrong(BAD_FRAME, Math.min(frame.size(), length + LONG_EXTRA_BYTES));
            }
            if (frame.at(C_PLACE) != C_ANSWER) {
                return wrong(BAD_FRAME, C_PLACE);
            }
            if (frame.at(I_PLACE) != I_ANSWER) {
                return wrong(BAD_FRAME, I_PLACE);
            }
            end = length + 4;
            return frame.at(end + 1) == STOP || wrong(BAD_FRAME, end + 1);
        }

        private boolean sumIsWell() {
            return frame.at(end) == frame.sum(C_PLACE, end) || wrong(BAD_SUM, end);
        }

        private boolean identIsWell() {
            for (int i = DATA_PLACE; i < DATA_PLACE + 4; i++) {
                if (!areDigits(frame.at(i))) {
                    return wrong(BAD_IDENT, i);
                }
            }
            return true;
        }

        private boolean readItem() {
            int start = at;
            int dif = take();
            if (dif == FILLER) {
                return true;
            }
            if (dif == MORE) {
                more = true;
                return at == end || wrong(BYTE_LACKS, at);
            }
            Reading draft = list.draft();
            draft.begin(dif);
            boolean well;
            if (dif == MAKERS_OWN) {
                well = readText(draft, end - at);
            } else if (draft.codeOf() == CODE_SPECIAL) {
                well = wrong(BAD_DIF, start);
            } else {
                well = readDifes(draft, dif) && readVifs(draft) && readValue(draft, start);
            }
            return well && (list.takesDraft() || wrong(TOO_MANY_RECORDS, start));
        }

        private int take() {
            int b = frame.at(at);
            at++;
            return b;
        }

        private boolean areThere(int n) {
            return at + n <= end || wrong(BYTE_LACKS, end);
        }

        private boolean readDifes(Reading draft, int dif) {
            int last = dif;
            for (int i = 0; i <= MOST_EXTENSIONS && (last & 0x80) != 0; i++) {
                if (!areThere(1)) {
                    return false;
                }
                if (i == MOST_EXTENSIONS) {
                    return wrong(TOO_MANY_DIFES, at);
                }
                last = take();
                draft.addDife(i, last);
            }
            return true;
        }

        /** The VIF is byte 0 here, its extensions are 1 and more. */
        private boolean readVifs(Reading draft) {
            int last = 0x80;
            for (int i = 0; i <= MOST_EXTENSIONS + 1 && (last & 0x80) != 0; i++) {
                if (!areThere(1)) {
                    return false;
                }
                if (i > MOST_EXTENSIONS) {
                    return wrong(TOO_MANY_VIFES, at);
                }
                last = take();
                draft.addVif(last);
            }
            return true;
        }

        private boolean readValue(Reading draft, int start) {
            int code = draft.codeOf();
            switch (code) {
                case 0: return true;
                case 1:
                case 2:
                case 3:
                case 4: return readNumber(draft, code);
                case 5: return readNumber(draft, 4);
                case 6: return readNumber(draft, 6);
                case 7: return readNumber(draft, 8);
                case 9:
                case 10:
                case 11:
                case 12: return readSignedBcd(draft, code - 8);
                case 14: return readSignedBcd(draft, 6);
                case CODE_TEXT: return readSized(draft);
                default: return wrong(BAD_DIF, start);
            }
        }

        private boolean readSized(Reading draft) {
            if (!areThere(1)) {
                return false;
            }
            int size = take();
            if (size <= 0xBF) {
                return readText(draft, size);
            }
            if (size <= 0xC9) {
                return readBcd(draft, size - 0xC0, 1, false);
            }
            if (size >= 0xD0 && size <= 0xD9) {
                return readBcd(draft, size - 0xD0, -1, false);
            }
            if (size >= 0xE0 && size <= 0xE8) {
                return readNumber(draft, size - 0xE0);
            }
            return wrong(BAD_SIZE, at - 1);
        }

        private boolean readText(Reading draft, int size) {
            if (!areThere(size)) {
                return false;
            }
            draft.setText(frame, at, size);
            at += size;
            return true;
        }

        private boolean readNumber(Reading draft, int size) {
            if (!areThere(size)) {
                return false;
            }
            boolean negative = size > 0 && (frame.at(at + size - 1) & 0x80) != 0;
            long value = negative ? -1 : 0;
            for (int i = size - 1; i >= 0; i--) {
                value = value << 8 | frame.at(at + i);
            }
            draft.setValue(value);
            at += size;
            return true;
        }

        private boolean readSignedBcd(Reading draft, int size) {
            boolean minus = frame.at(at + size - 1) >> 4 == 15;
            return readBcd(draft, size, minus ? -1 : 1, minus);
        }

        /** Where a minus stands in the highest four bits, they count as a 0. */
        private boolean readBcd(Reading draft, int size, int sign, boolean minus) {
            if (!areThere(size)) {
                return false;
            }
            long value = 0;
            long weight = 1;
            for (int i = 0; i < size; i++) {
                int digits = frame.at(at + i);
                if (minus && i == size - 1) {
                    digits &= 15;
                }
                if (!areDigits(digits)) {
                    return wrong(BAD_DIGIT, at + i);
                }
                value += weight * ((digits >> 4) * 10 + (digits & 15));
                weight *= 100;
            }
            draft.setValue(sign * value);
            at += size;
            return true;
        }
    }
}
