/** The edges that "3 THE MASTER" names, and those of promises 10, 11, 12 and 14; a comment tells the sentence. */
public final class MasterEdgesTest {
    private static final int PARTS = 12;

    public static void main(String[] args) {
        noneAndOne();
        lastPartThatDiffers();
        allValuesOfAPart();
        twelve();
        changesNothingElse();
        foundBefore();
        questionsByPages();
        tenAtMost();
        hundredByTenQuestions();
        noSingle();
        faultOfEachAnswer();
        listEmptyFirst();
        placeOfTheLatest();
        Check.end();
    }

    private static MeterBus withPages(int[]... pages) {
        MeterBus x = new MeterBus();
        x.meter(4, 9, 0x12345678, 0x0203, 4, 5);
        for (int i = 0; i < pages.length; i++) {
            Check.fill(x, pages[i]);
            x.page(4, i);
        }
        Check.due("search", x.search(), 1);
        return x;
    }

    /** "If nothing comes, that is all; if E5 comes, it puts 10 40 253 .. and the frame .. again .., then asks". */
    private static void noneAndOne() {
        MeterBus x = new MeterBus();
        Check.due("none", x.search(), 0);
        Check.due("none: counts", Check.counts(x), "0 0 0 0 1 0 ");
        x.meter(11, 250, 0x99999999, 0xFEFE, 254, 254);
        Check.due("one", x.search(), 1);
        Check.due("one: counts", Check.counts(x), "1 0 1 0 5 0 ");
        Check.due("one: its state", Check.bit(Check.states(x).endsWith("; 1 250 1 1 0 0 1 ; ")), 1);
        Check.due("one, again", x.search(), 1);
        Check.due("one: frames", x.count(4), 9);
        Check.due("one: the reset comes before the question", x.state(11, 4), 0);
        Check.due("one: access", x.state(11, 6), 2);
    }

    private static int values(int part) {
        return part < 8 ? 10 : 255;
    }

    private static void plug(MeterBus x, int k, int part, int value) {
        int ident = part < 8 ? value << 4 * (7 - part) : 0;
        int maker = part == 8 ? value : part == 9 ? value << 8 : 0;
        x.meter(k, 1, ident, maker, part == 10 ? value : 0, part == 11 ? value : 0);
    }

    private static String due(int part, int value) {
        int[] address = new int[8];
        if (part < 8) {
            address[3 - part / 2] = part % 2 == 0 ? value << 4 : value;
        } else {
            address[part - 4] = value;
        }
        return Check.text(address) + "; ";
    }

    /** "part n of the mask gets each of its values, one after the other, and PROBE n + 1", by the part that differs. */
    private static void lastPartThatDiffers() {
        for (int part = 0; part < PARTS; part++) {
            int last = values(part) - 1;
            int[][] pairs = {{0, 1}, {0, last}, {last, 0}, {last, last - 1}};
            for (int[] pair : pairs) {
                MeterBus x = new MeterBus();
                plug(x, 0, part, pair[0]);
                plug(x, 7, part, pair[1]);
                String what = "part " + part + ", values " + pair[0] + " and " + pair[1];
                Check.due(what, x.search(), 2);
                Check.due(what + ": found", Check.founds(x),
                        due(part, Math.min(pair[0], pair[1])) + due(part, Math.max(pair[0], pair[1])));
                int frames = 1 + 2 * 3;
                for (int n = 0; n <= part; n++) {
                    frames += values(n);
                }
                Check.due(what + ": frames", x.count(4), frames);
                Check.due(what + ": collisions", x.count(5), part + 1);
            }
        }
    }

    /** "PARTS: 0 .. 7 the digits .. (values 0 .. 9), 8, 9 .. MAKER, 10 VERSION, 11 MEDIUM (values 0 .. 254)". */
    private static void allValuesOfAPart() {
        for (int part = 0; part < PARTS; part++) {
            for (int from : part < 8 ? new int[] {0} : new int[] {0, 10, 123, 245}) {
                int to = from + 10;
                MeterBus x = new MeterBus();
                StringBuilder due = new StringBuilder();
                for (int value = from; value < to; value++) {
                    plug(x, to - 1 - value, part, value);
                    due.append(due(part, value));
                }
                Check.due("part " + part + " from " + from, x.search(), to - from);
                Check.due("part " + part + " from " + from + ": found", Check.founds(x), due.toString());
            }
        }
    }

    /** All the meters that there can be; "byte what (0 .. 7)" of each. */
    private static void twelve() {
        MeterBus x = new MeterBus();
        for (int k = 0; k < 12; k++) {
            x.meter(11 - k, 3, 0x99999999, 0xFEFE, 254, 254 - k);
        }
        Check.due("twelve", x.search(), 12);
        Check.due("the last is selected", x.state(11, 2), 1);
        for (int k = 0; k < 12; k++) {
            int[] due = {0x99, 0x99, 0x99, 0x99, 0xFE, 0xFE, 0xFE, 243 + k};
            for (int what = 0; what < 8; what++) {
                Check.due("found(" + k + ", " + what + ")", x.found(k, what), due[what]);
            }
            Check.due("each was asked once", x.state(k, 6), 1);
            Check.due("each was reset, then selected and asked", x.state(k, 5), 0);
            Check.due("readOut(" + k + ")", x.readOut(k), 0);
            Check.due("it is asked again", x.state(k, 6), 2);
        }
        Check.due("collisions", x.count(5), 12);
        Check.due("frames", x.count(4), 1 + 8 * 10 + 4 * 255 + 12 * 3 + 12 * 4);
    }

    /** A search is the master's: buffer, list and place stay; frames behind the last found one select none. */
    private static void changesNothingElse() {
        MeterBus x = withPages(Check.bytes(0x01, 0x13, 0x05));
        x.meter(5, 9, 0x12345679, 0x0203, 4, 5);
        Check.decode(x, Check.answer(0x01, 0x13, 0x09));
        Check.decode(x, Check.answer(0x2F, 0x08, 0x13));
        String buffer = Check.buffer(x);
        Check.due("search", x.search(), 2);
        Check.due("the buffer stays", Check.buffer(x), buffer);
        Check.due("the list stays", Check.records(x), "9 1 0 0 0 0 1 19; ");
        Check.due("the place stays", x.place(), 20);
        Check.due("meters", Check.states(x).substring(64, 96), "1 9 0 1 0 0 2 ; 1 9 0 1 0 0 1 ; ");
        Check.due("read out", x.readOut(0), 1);
        Check.due("the buffer stays behind readOut, too", Check.buffer(x), buffer);
        Check.due("found stays", x.count(2), 2);
    }

    /** "how many are FOUND (what was found before is forgotten)"; until then it stays. */
    private static void foundBefore() {
        MeterBus x = new MeterBus();
        for (int k = 0; k < 12; k++) {
            x.meter(k, 1, k % 10, 0, 0, k);
        }
        for (int left = 12; left >= 0; left--) {
            Check.due("search", x.search(), left);
            Check.due("found", x.count(2), left);
            int none = left;
            Check.dueThrow("one more", x, Check.INDEX, () -> x.found(none, 0));
            if (left > 0) {
                x.found(left - 1, 7);
                x.remove(12 - left);
                Check.due("found stays", x.count(2), left);
            }
        }
    }

    /** "as long as the last one's records end by 1F it asks for another": 1, 2 and 3 pages. */
    private static void questionsByPages() {
        int[][] pages = {{0x01, 0x13, 0x05}, {0x01, 0x13, 0x06}, {0x01, 0x13, 0x07}};
        for (int n = 0; n <= 3; n++) {
            MeterBus x = withPages(java.util.Arrays.copyOf(pages, n));
            int questions = Math.max(n, 1);
            int frames = x.count(4);
            Check.due(n + " pages", x.readOut(0), n);
            Check.due(n + " pages: frames", x.count(4), frames + 3 + questions);
            Check.due(n + " pages: access", x.state(4, 6), 1 + questions);
            Check.due(n + " pages: page told last", x.state(4, 4), questions - 1);
            Check.due(n + " pages: its bit", x.state(4, 5), questions % 2);
            for (int i = 0; i < n; i++) {
                Check.due(n + " pages: record " + i, x.record(i, 0), 5 + i);
            }
            Check.due(n + " pages: again", x.readOut(0), n);
        }
        MeterBus empty = withPages(Check.bytes(), Check.bytes(), Check.bytes(0x01, 0x13, 0x07));
        Check.due("empty pages before the last", empty.readOut(0), 1);
        Check.due("three questions", empty.state(4, 6), 4);
        MeterBus full = withPages(Check.repeat(20, 0x01, 0x13, 0x05), Check.repeat(20, 0x01, 0x13, 0x06));
        Check.due("pages of 60 bytes", full.readOut(0), 40);
    }

    /** "10 at most": a last page that ends by 1F itself. */
    private static void tenAtMost() {
        int[][] pages = {{0x01, 0x13, 0x05}, {0x01, 0x13, 0x06}, {0x01, 0x13, 0x07}};
        int[] told = {0, 1, 0};
        for (int n = 1; n <= 3; n++) {
            int[][] some = java.util.Arrays.copyOf(pages, n);
            some[n - 1] = Check.join(some[n - 1], Check.bytes(0x1F));
            MeterBus x = withPages(some);
            int frames = x.count(4);
            Check.due(n + " pages", x.readOut(0), 10);
            Check.due(n + " pages: frames", x.count(4), frames + 3 + 10);
            Check.due(n + " pages: access", x.state(4, 6), 11);
            Check.due(n + " pages: place", x.place(), MeterBus.NONE);
            Check.due(n + " pages: page told last", x.state(4, 4), told[n - 1]);
            Check.due(n + " pages: the tenth bit", x.state(4, 5), 0);
            for (int i = 0; i < 10; i++) {
                Check.due(n + " pages: record " + i, x.record(i, 0), 5 + i % n);
            }
        }
        MeterBus none = withPages(Check.bytes(0x1F));
        Check.due("1F alone", none.readOut(0), 0);
        Check.due("1F alone: access", none.state(4, 6), 11);
    }

    /** "RECORDS come behind the LIST, 100 at most", by ten answers: 100, and one more in the tenth. */
    private static void hundredByTenQuestions() {
        int[] ten = Check.repeat(10, 0x00, 0x13);
        int[] last = Check.join(ten, Check.bytes(0x1F));
        Check.due("100", withPages(ten, ten, last).readOut(0), 100);
        MeterBus x = withPages(Check.join(ten, Check.bytes(0x00, 0x14)), ten,
                Check.join(Check.repeat(9, 0x00, 0x13), Check.bytes(0x1F)));
        Check.due("101", x.readOut(0), -2 - 10);
        Check.due("101: the list is empty", x.count(3), 0);
        Check.due("101: in the tenth answer", x.state(4, 6), 11);
        Check.due("101: its place", x.place(), 19 + 2 * 10);
    }

    /** "NONE: E5 did not come .., then the list is empty". */
    private static void noSingle() {
        MeterBus x = withPages(Check.bytes(0x01, 0x13, 0x05));
        Check.decode(x, Check.answer(0x01, 0x13, 0x09));
        Check.decode(x);
        Check.due("a fault before", x.place(), 0);
        int frames = x.count(4);
        x.remove(4);
        Check.due("it is gone", x.readOut(0), MeterBus.NONE);
        Check.due("frames", x.count(4), frames + 1);
        Check.due("the list is empty", x.count(3), 0);
        Check.due("no fault", x.place(), MeterBus.NONE);
        Check.due("found stays", Check.founds(x), "78 56 34 12 03 02 04 05 ; ");
        int[][] nearly = {{0x12345679, 0x0203, 4, 5}, {0x02345678, 0x0203, 4, 5}, {0x12345678, 0x0204, 4, 5},
            {0x12345678, 0x0303, 4, 5}, {0x12345678, 0x0203, 3, 5}, {0x12345678, 0x0203, 4, 6}};
        for (int[] a : nearly) {
            x.meter(4, 9, a[0], a[1], a[2], a[3]);
            Check.due("another address", x.readOut(0), MeterBus.NONE);
            Check.due("it is not asked", x.state(4, 6), 0);
        }
        x.meter(0, 200, 0x12345678, 0x0203, 4, 5);
        Check.due("another one with that address", x.readOut(0), 0);
        Check.due("it is asked", x.state(0, 6), 1);
    }

    /** "-2 less the FAULT of an answer, likewise": each fault that a page can have, in each of three answers. */
    private static void faultOfEachAnswer() {
        int[][] wrong = {{0x01, 0x13}, Check.repeat(30, 0x80), Check.join(Check.bytes(0x00), Check.repeat(30, 0x80)),
            {0x09, 0x13, 0xA0}, {0x0D, 0x13, 0xCA}, {0x08, 0x13}, {0x3F}};
        int[] fault = {4, 5, 6, 7, 8, 9, 9};
        int[] place = {21, 30, 31, 21, 21, 19, 19};
        for (int f = 0; f < wrong.length; f++) {
            for (int at = 0; at < 3; at++) {
                int[][] pages = {{0x01, 0x13, 0x05}, {0x01, 0x13, 0x06}, {0x01, 0x13, 0x07}};
                boolean lacks = fault[f] == 4 && at < 2;
                pages[at] = lacks ? Check.bytes(0x02, 0x13) : wrong[f];
                MeterBus x = withPages(pages);
                Check.decode(x, Check.answer(0x01, 0x13, 0x09));
                String what = "fault " + fault[f] + " in answer " + at;
                Check.due(what, x.readOut(0), -2 - fault[f]);
                Check.due(what + ": place", x.place(), lacks ? 22 : place[f]);
                Check.due(what + ": the list is empty", x.count(3), 0);
                Check.due(what + ": no more questions", x.state(4, 6), 2 + at);
                Check.due(what + ": found stays", x.count(2), 1);
            }
        }
    }

    /** "TO READ OUT found one k, the list being empty first": 100 before do not count. */
    private static void listEmptyFirst() {
        MeterBus x = withPages(Check.bytes(0x01, 0x13, 0x05));
        Check.due("100 before", Check.decode(x, Check.answer(Check.repeat(100, 0x00, 0x13))), 100);
        Check.due("read out", x.readOut(0), 1);
        Check.due("records", Check.records(x), "5 1 0 0 0 0 1 19; ");
        Check.due("99 behind", Check.decode(x, Check.answer(Check.repeat(99, 0x00, 0x13))), 100);
        Check.due("one more", Check.decode(x, Check.answer(0x00, 0x13)), -10);
    }

    /** "The place of the latest FAULT of decode() or readOut(); NONE, if the latest of these had none." */
    private static void placeOfTheLatest() {
        MeterBus x = withPages(Check.bytes(0x01, 0x13, 0x05));
        Check.due("at first", x.place(), MeterBus.NONE);
        Check.decode(x, Check.answer(0x08, 0x13));
        Check.due("decode with a fault", x.place(), 19);
        x.readOut(0);
        Check.due("readOut without", x.place(), MeterBus.NONE);
        Check.fill(x, 0x2F, 0x2F, 0x3F);
        x.page(4, 0);
        x.readOut(0);
        Check.due("readOut with a fault", x.place(), 21);
        Check.decode(x, Check.answer());
        Check.due("decode without", x.place(), MeterBus.NONE);
        Check.decode(x);
        Check.due("decode of no byte", x.place(), 0);
        x.search();
        x.clear();
        x.send();
        x.remove(4);
        Check.due("it stays", x.place(), 0);
        x.readOut(0);
        Check.due("readOut of none", x.place(), MeterBus.NONE);
    }
}
