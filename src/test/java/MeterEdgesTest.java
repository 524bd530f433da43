/** The edges that "2 METERS" names, and those of promises 5 to 8; a comment tells the sentence. */
public final class MeterEdgesTest {
    private static final int[] ALL_WILD = Check.repeat(8, 0xFF);
    /** What a frame does to those that it is for: all ways that there are. */
    private static final int RESET = 0, ASK_0 = 1, ASK_1 = 2, FORGET = 3, PRIMARY = 4, DOINGS = 5;

    public static void main(String[] args) {
        firstAndLastMeter();
        newMeter();
        numberOfPages();
        sizesOfPages();
        whoIsMeant();
        selectedAndReset();
        pageToTell();
        pageWithoutBit();
        moreBehind();
        access();
        selectFrame();
        fitsByDigits();
        fitsByBytes();
        forgetFrame();
        primaryFrame();
        othersOfC();
        Check.end();
    }

    private static MeterBus one() {
        MeterBus x = new MeterBus();
        x.meter(0, 1, 0x12345678, 0x0201, 3, 4);
        return x;
    }

    private static MeterBus onePaged(int pages) {
        MeterBus x = one();
        for (int i = 0; i < pages; i++) {
            Check.fill(x, 0xA0 + i);
            x.page(0, i);
        }
        return x;
    }

    private static void makeEmpty(MeterBus x, int i) {
        x.keep(0);
        x.page(0, i);
    }

    /** "METERS 0 .. 11 are there or not". */
    private static void firstAndLastMeter() {
        MeterBus x = new MeterBus();
        for (int k = 0; k < 12; k++) {
            Check.due("not there", x.state(k, 0), 0);
            x.meter(k, 250 - k, k % 10, k, 0, 0);
            Check.due("there", x.state(k, 0), 1);
            Check.due("meters there", x.count(0), k + 1);
        }
        for (int k = 0; k < 12; k++) {
            Check.due("asked", Check.send(x, Check.shortFrame(0x5B, 250 - k)), 21);
            Check.due("its ident", x.typed(7), k % 10);
            Check.due("its maker", x.typed(11), k);
        }
        for (int k = 11; k >= 0; k--) {
            Check.due("removed", Check.bit(x.remove(k)), 1);
            Check.due("meters there", x.count(0), k);
            Check.due("it answers no more", Check.send(x, Check.shortFrame(0x5B, 250 - k)), 0);
        }
    }

    /** "Meter k is there (a new one, with empty pages, if it was, too)": all that a used one has is gone. */
    private static void newMeter() {
        MeterBus x = onePaged(3);
        Check.send(x, Check.longFrame(0x53, 253, 0x52, ALL_WILD));
        Check.send(x, Check.shortFrame(0x7B, 253));
        Check.send(x, Check.shortFrame(0x5B, 253));
        Check.due("a used one", Check.states(x).substring(0, 14), "1 1 1 3 1 0 2 ");
        x.meter(0, 1, 0x12345678, 0x0201, 3, 4);
        Check.due("a new one", Check.states(x).substring(0, 16), "1 1 0 1 -1 -1 0 ");
        Check.due("its first answer", Check.send(x, Check.shortFrame(0x5B, 1)), 21);
        Check.due("its first access", x.typed(15), 0);
    }

    /** "their number is that of the last one that is not empty, and 1; 1 at least". */
    private static void numberOfPages() {
        int[] due = {1, 1, 2, 2, 3, 3, 3, 3};
        for (int filled = 0; filled < 8; filled++) {
            MeterBus x = one();
            int last = 0;
            for (int i = 0; i < 3; i++) {
                Check.fill(x, Check.repeat(filled >> i & 1, 0xCC));
                last = x.page(0, i);
            }
            Check.due("pages, as page() tells", last, due[filled]);
            Check.due("pages, as state() tells", x.state(0, 3), due[filled]);
            for (int i = 2; i >= 0; i--) {
                makeEmpty(x, i);
                Check.due("one less", x.state(0, 3), due[filled & (1 << i) - 1]);
            }
        }
    }

    /** "each of at most 60 bytes": none, 1, 59 and 60 of them come back as they were. */
    private static void sizesOfPages() {
        for (int size : new int[] {0, 1, 59, 60}) {
            int[] page = new int[size];
            for (int j = 0; j < size; j++) {
                page[j] = 255 - 3 * j;
            }
            for (int i = 0; i < 3; i++) {
                MeterBus x = one();
                Check.fill(x, page);
                Check.due("pages", x.page(0, i), size == 0 ? 1 : i + 1);
                Check.due("the buffer is empty then", x.count(1), 0);
                for (int asked = 0; asked <= i; asked++) {
                    Check.send(x, Check.shortFrame(asked % 2 == 0 ? 0x5B : 0x7B, 1));
                }
                int access = i;
                Check.due("page " + i + " of " + size, Check.buffer(x), Check.text(Check.longFrame(0x08, 1, 0x72,
                        Check.join(Check.bytes(0x78, 0x56, 0x34, 0x12, 1, 2, 3, 4, access, 0, 0, 0), page))));
            }
        }
    }

    private static int[] frame(int doing, int a) {
        switch (doing) {
            case RESET: return Check.shortFrame(0x40, a);
            case ASK_0: return Check.shortFrame(0x5B, a);
            case ASK_1: return Check.shortFrame(0x7B, a);
            case FORGET: return Check.longFrame(0x53, a, 0x50);
            default: return Check.longFrame(0x73, a, 0x51, 0x01, 0x7A, 77);
        }
    }

    /** State before: BIT 1, page 0, access 1. */
    private static String dueState(int doing, boolean meant, int a, int primary, boolean selected) {
        int stays = selected && !(meant && doing == RESET && a == 253) ? 1 : 0;
        int newPrimary = meant && doing == PRIMARY ? 77 : primary;
        String head = "1 " + newPrimary + " " + stays + " 1 ";
        if (!meant || doing == PRIMARY) {
            return head + "0 1 1 ";
        }
        if (doing == ASK_0 || doing == ASK_1) {
            return head + "0 " + (doing == ASK_1 ? 1 : 0) + " 2 ";
        }
        return head + "-1 -1 1 ";
    }

    /** "A up to 250 those with that primary address, 253 those that are selected, 254, 255 all; 251, 252 none." */
    private static void whoIsMeant() {
        int[] primaries = {0, 1, 249, 250, 250};
        for (int a : new int[] {0, 1, 2, 248, 249, 250, 251, 252, 253, 254, 255}) {
            for (int doing = 0; doing < DOINGS; doing++) {
                for (int selected = 0; selected <= 2; selected++) {
                    meant(a, doing, selected, primaries);
                }
            }
        }
    }

    /** "Others do not care; if A is 255, none answers." The first ones, 0 .. 2 of them, are selected. */
    private static void meant(int a, int doing, int selected, int[] primaries) {
        MeterBus x = new MeterBus();
        for (int k = 0; k < primaries.length; k++) {
            x.meter(k, primaries[k], k, 0, k < selected ? 9 : 8, 0);
        }
        Check.send(x, Check.shortFrame(0x7B, 255));
        Check.send(x, Check.longFrame(0x53, 253, 0x52, 255, 255, 255, 255, 255, 255, 9, 255));
        int frames = x.count(4);
        int collisions = x.count(5);
        int comes = Check.send(x, frame(doing, a));
        int answers = 0;
        StringBuilder due = new StringBuilder();
        for (int k = 0; k < primaries.length; k++) {
            boolean meant = a <= 250 ? primaries[k] == a : a == 253 ? k < selected : a > 253;
            answers += meant && a != 255 ? 1 : 0;
            due.append(dueState(doing, meant, a, primaries[k], k < selected)).append("; ");
        }
        String what = "A " + a + ", doing " + doing + ", selected " + selected;
        int bytes = doing == ASK_0 || doing == ASK_1 ? 21 : 1;
        Check.due(what, comes, answers == 0 ? 0 : answers == 1 ? bytes : MeterBus.COLLISION);
        Check.due(what + ": bytes", x.count(1), answers == 1 ? bytes : 0);
        Check.due(what + ": frames", x.count(4), frames + 1);
        Check.due(what + ": collisions", x.count(5), collisions + (answers > 1 ? 1 : 0));
        Check.due(what + ": states", Check.states(x).substring(0, due.length()), due.toString());
    }

    /** "short, C 40: .. with A 253 they are not selected any more": with every other A they are. */
    private static void selectedAndReset() {
        for (int a : new int[] {1, 252, 253, 254, 255}) {
            MeterBus x = one();
            Check.send(x, Check.longFrame(0x53, 253, 0x52, ALL_WILD));
            Check.due("reset by " + a, Check.send(x, Check.shortFrame(0x40, a)), a == 252 || a == 255 ? 0 : 1);
            Check.due("is selected behind reset by " + a, x.state(0, 2), a == 253 ? 0 : 1);
        }
    }

    /** "the page told last with the same BIT, else the next one; 0, if there is none such (any more)". */
    private static void pageToTell() {
        for (int told = 0; told < 3; told++) {
            for (int left = 1; left <= 3; left++) {
                for (int same = 0; same < 2; same++) {
                    MeterBus x = onePaged(3);
                    for (int i = 0; i <= told; i++) {
                        Check.send(x, Check.shortFrame(i % 2 == 0 ? 0x5B : 0x7B, 1));
                    }
                    Check.due("told last", x.state(0, 4), told);
                    for (int i = left; i < 3; i++) {
                        makeEmpty(x, i);
                    }
                    int bit = same == 1 ? told % 2 : 1 - told % 2;
                    int wanted = same == 1 ? told : told + 1;
                    int due = wanted < left ? wanted : 0;
                    Check.send(x, Check.shortFrame(bit == 0 ? 0x5B : 0x7B, 1));
                    String what = "told " + told + ", left " + left + ", same bit " + same;
                    Check.due(what, x.typed(19), 0xA0 + due);
                    Check.due(what + ": page told", x.state(0, 4), due);
                    Check.due(what + ": bit", x.state(0, 5), bit);
                }
            }
        }
    }

    /** "the page to be told is 0 without a BIT": at first, and when it was forgotten on another page. */
    private static void pageWithoutBit() {
        int[][] forgets = {Check.shortFrame(0x40, 1), Check.longFrame(0x53, 1, 0x50), Check.shortFrame(0x40, 255)};
        for (int c : new int[] {0x5B, 0x7B}) {
            for (int[] forget : forgets) {
                MeterBus x = onePaged(3);
                Check.due("no page told", x.state(0, 4), MeterBus.NONE);
                Check.due("no bit", x.state(0, 5), MeterBus.NONE);
                Check.send(x, Check.shortFrame(c, 1));
                Check.due("the first page", x.typed(19), 0xA0);
                Check.send(x, Check.shortFrame(c ^ 0x20, 1));
                Check.due("the next", x.typed(19), 0xA1);
                Check.send(x, forget);
                Check.due("page forgotten", x.state(0, 4), MeterBus.NONE);
                Check.due("bit forgotten", x.state(0, 5), MeterBus.NONE);
                Check.due("access stays", x.state(0, 6), 2);
                Check.send(x, Check.shortFrame(c, 1));
                Check.due("the first page again", x.typed(19), 0xA0);
            }
        }
    }

    /** "the page's bytes, and 1F, if there is another page behind it": also an empty one before the last. */
    private static void moreBehind() {
        for (int filled = 0; filled < 8; filled++) {
            MeterBus x = one();
            for (int i = 0; i < 3; i++) {
                Check.fill(x, Check.repeat(filled >> i & 1, 0xA0 + i));
                x.page(0, i);
            }
            int pages = x.state(0, 3);
            for (int i = 0; i < pages; i++) {
                Check.send(x, Check.shortFrame(i % 2 == 0 ? 0x5B : 0x7B, 1));
                int[] bytes = Check.join(Check.repeat(filled >> i & 1, 0xA0 + i), Check.repeat(i + 1 < pages ? 1 : 0, 0x1F));
                Check.due("page " + i + " of " + filled, Check.buffer(x), Check.text(Check.longFrame(0x08, 1, 0x72,
                        Check.join(Check.bytes(0x78, 0x56, 0x34, 0x12, 1, 2, 3, 4, i, 0, 0, 0), bytes))));
            }
        }
    }

    /** "an ACCESS number 0 .. 255 (0 at first)"; "ACCESS is 1 more (0 behind 255)". */
    private static void access() {
        MeterBus x = one();
        int[] ask = Check.shortFrame(0x5B, 1);
        Check.due("at first", x.state(0, 6), 0);
        for (int i = 0; i < 258; i++) {
            Check.send(x, ask);
            Check.due("told by answer " + i, x.typed(15), i & 255);
            Check.due("behind answer " + i, x.state(0, 6), i + 1 & 255);
        }
    }

    /** "with I 52, 8 bytes of data and A 253 ALL meters look at it: those .. are selected, all others are not". */
    private static void selectFrame() {
        for (int c : new int[] {0x53, 0x73}) {
            MeterBus x = new MeterBus();
            for (int k = 0; k < 12; k++) {
                x.meter(k, k, k % 10, 0, 0, k);
            }
            for (int k = 0; k < 12; k++) {
                Check.due("select one", Check.send(x, Check.longFrame(c, 253, 0x52, k % 10, 0, 0, 0, 0, 0, 0, k)), 1);
                for (int other = 0; other < 12; other++) {
                    Check.due("selected", x.state(other, 2), other == k ? 1 : 0);
                }
            }
            Check.due("select none", Check.send(x, Check.longFrame(c, 253, 0x52, 9, 0, 0, 0, 0, 0, 0, 0)), 0);
            Check.due("none is selected", Check.bit(Check.states(x).contains("1 11 0 1 ")), 1);
            Check.due("select all", Check.send(x, Check.longFrame(c, 253, 0x52, ALL_WILD)), MeterBus.COLLISION);
            for (int n : new int[] {0, 7, 9}) {
                Check.due("by " + n + " bytes", Check.send(x, Check.longFrame(c, 253, 0x52, new int[n])), 0);
            }
            for (int a : new int[] {0, 1, 250, 251, 252, 254, 255}) {
                Check.due("by A " + a, Check.send(x, Check.longFrame(c, a, 0x52, new int[8])), 0);
            }
            for (int i : new int[] {0x51, 0x53}) {
                Check.due("by I " + i, Check.send(x, Check.longFrame(c, 253, i, new int[8])), 0);
            }
            for (int k = 0; k < 12; k++) {
                Check.due("all are still selected", x.state(k, 2), 1);
            }
        }
    }

    private static void fits(String what, int due, int[] mask) {
        MeterBus x = one();
        Check.send(x, Check.longFrame(0x53, 253, 0x52, due == 1 ? Check.bytes(0, 0, 0, 0, 0, 0, 0, 0) : ALL_WILD));
        Check.due(what + " before", x.state(0, 2), 1 - due);
        Check.due(what + Check.text(mask), Check.send(x, Check.longFrame(0x53, 253, 0x52, mask)), due);
        Check.due(what + Check.text(mask) + "is selected", x.state(0, 2), due);
    }

    /** "FITS: of the first four bytes each four bits are F, or the same". */
    private static void fitsByDigits() {
        int[] address = {0x78, 0x56, 0x34, 0x12, 1, 2, 3, 4};
        for (int at = 0; at < 8; at++) {
            int shift = at % 2 * 4;
            for (int digit = 0; digit < 16; digit++) {
                int due = digit == 15 || digit == (address[at / 2] >> shift & 15) ? 1 : 0;
                for (int[] from : new int[][] {address, ALL_WILD}) {
                    int[] mask = from.clone();
                    mask[at / 2] = mask[at / 2] & ~(15 << shift) | digit << shift;
                    fits("digit " + at + ": ", due, mask);
                }
            }
        }
    }

    /** "each of the others is FF, or the same": four bits of F alone are no wildcard there. */
    private static void fitsByBytes() {
        int[] address = {0x78, 0x56, 0x34, 0x12, 1, 2, 3, 4};
        for (int at = 4; at < 8; at++) {
            for (int b = 0; b < 256; b++) {
                int due = b == 255 || b == address[at] ? 1 : 0;
                int[] mask = b % 2 == 0 ? address.clone() : ALL_WILD.clone();
                mask[at] = b;
                fits("byte " + at + ": ", due, mask);
            }
        }
    }

    private static void nothing(String what, MeterBus x, int... frame) {
        String before = Check.states(x);
        Check.due(what, Check.send(x, frame), 0);
        Check.due(what + ": the meters", Check.states(x), before);
    }

    /** "With I 50 and no data: they forget page and BIT; E5." */
    private static void forgetFrame() {
        for (int c : new int[] {0x53, 0x73}) {
            for (int a : new int[] {1, 253, 254}) {
                MeterBus x = one();
                Check.send(x, Check.longFrame(0x53, 253, 0x52, ALL_WILD));
                Check.send(x, Check.shortFrame(0x7B, 1));
                nothing("a byte of data", x, Check.longFrame(c, a, 0x50, 0));
                nothing("I 4F", x, Check.longFrame(c, a, 0x4F));
                nothing("I 51 without data", x, Check.longFrame(c, a, 0x51));
                Check.due("no data", Check.send(x, Check.longFrame(c, a, 0x50)), 1);
                Check.due("E5", x.typed(0), 0xE5);
                Check.due("forgotten, all else stays", Check.states(x).substring(0, 16), "1 1 1 1 -1 -1 1 ");
            }
        }
    }

    /** "With I 51 and the data 01 7A and a byte 0 .. 250: that is the primary address; E5." */
    private static void primaryFrame() {
        for (int b = 0; b < 256; b++) {
            MeterBus x = one();
            int[] frame = Check.longFrame(b % 2 == 0 ? 0x53 : 0x73, 254, 0x51, 0x01, 0x7A, b);
            if (b > 250) {
                nothing("primary " + b, x, frame);
                continue;
            }
            Check.due("primary " + b, Check.send(x, frame), 1);
            Check.due("it is " + b, x.state(0, 1), b);
            Check.due("by the new one", Check.send(x, Check.shortFrame(0x5B, b)), 21);
            Check.due("it is told", x.typed(5), b);
            Check.due("by the old one", Check.send(x, Check.shortFrame(0x40, 1)), b == 1 ? 1 : 0);
        }
        MeterBus y = one();
        int[][] wrong = {{}, {0x01}, {0x01, 0x7A}, {0x01, 0x7A, 9, 9}, {0x00, 0x7A, 9}, {0x02, 0x7A, 9}, {0x01, 0x79, 9},
            {0x01, 0x7B, 9}, {0x01, 0xFA, 9}, {0x7A, 0x01, 9}};
        for (int[] data : wrong) {
            nothing("data " + Check.text(data), y, Check.longFrame(0x53, 1, 0x51, data));
        }
    }

    /** "All else: nothing": the neighbours of every C that does something, short as long and long as short. */
    private static void othersOfC() {
        MeterBus x = one();
        Check.send(x, Check.longFrame(0x53, 253, 0x52, ALL_WILD));
        Check.send(x, Check.shortFrame(0x7B, 1));
        for (int a : new int[] {1, 253, 254, 255}) {
            for (int c : new int[] {0x00, 0x08, 0x3F, 0x41, 0x4B, 0x53, 0x5A, 0x5C, 0x6B, 0x73, 0x7A, 0x7C, 0xDB, 0xFB}) {
                nothing("short, C " + c, x, Check.shortFrame(c, a));
            }
            for (int c : new int[] {0x08, 0x40, 0x43, 0x52, 0x54, 0x5B, 0x63, 0x72, 0x74, 0x7B, 0xD3, 0xF3}) {
                nothing("long, C " + c, x, Check.longFrame(c, a, 0x50));
                nothing("long, C " + c, x, Check.longFrame(c, a, 0x51, 0x01, 0x7A, 9));
                nothing("long, C " + c, x, Check.longFrame(c, a, 0x52, new int[8]));
            }
        }
    }
}
