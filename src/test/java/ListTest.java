/** Promises 15 (clear), 16 (record), 17 (text) and 18 (count), and the values that records have. */
public final class ListTest {
    public static void main(String[] args) {
        difs();
        numbers();
        bcd();
        sized();
        texts();
        clears();
        isRefused();
        counts();
        Check.end();
    }

    private static void due(String due, int... item) {
        MeterBus x = new MeterBus();
        Check.due(Check.text(item), Check.decode(x, Check.answer(item)), 1);
        Check.due(Check.text(item), Check.record(x, 0), due);
        int vifs = (int) x.record(0, 6);
        Check.dueThrow("behind the VIFs", x, Check.INDEX, () -> x.record(0, 7 + vifs));
    }

    private static void difs() {
        due("0 0 0 0 0 0 1 0", 0x00, 0x00);
        due("0 0 1 0 0 0 1 127", 0x10, 0x7F);
        due("0 0 3 1 0 0 1 19", 0x70, 0x13);
        due("0 0 0 1 0 0 1 19", 0xC0, 0x00, 0x13);
        due("0 0 0 30 0 0 1 19", 0x80, 0x0F, 0x13);
        due("0 0 0 0 3 0 1 19", 0x80, 0x30, 0x13);
        due("0 0 0 0 0 1 1 19", 0x80, 0x40, 0x13);
        due("0 0 2 163 6 2 1 19", 0xE0, 0xA1, 0x55, 0x13);
        due("0 0 3 2199023255551 1048575 1023 1 19", 0xF0, 0xFF, 0xFF, 0xFF, 0xFF, 0xFF, 0xFF, 0xFF, 0xFF, 0xFF, 0x7F, 0x13);
        due("0 0 0 1099511627776 524288 512 1 19",
                0x80, 0x80, 0x80, 0x80, 0x80, 0x80, 0x80, 0x80, 0x80, 0x80, 0x68, 0x13);
        due("0 0 0 0 0 0 3 147 253 1", 0x00, 0x93, 0xFD, 0x01);
        due("0 0 0 0 0 0 11 128 129 130 131 132 133 134 135 136 137 10",
                0x00, 0x80, 0x81, 0x82, 0x83, 0x84, 0x85, 0x86, 0x87, 0x88, 0x89, 0x0A);
    }

    private static void value(long due, int... item) {
        MeterBus x = new MeterBus();
        Check.due(Check.text(item), Check.decode(x, Check.answer(Check.join(item, Check.bytes(0x01, 0x13, 0x33)))), 2);
        Check.due("value of " + Check.text(item), x.record(0, 0), due);
        Check.due("code of " + Check.text(item), x.record(0, 1), item[0] & 15);
        Check.due("the record behind " + Check.text(item), x.record(1, 0), 0x33);
    }

    private static void numbers() {
        value(0, 0x00, 0x13);
        value(127, 0x01, 0x13, 0x7F);
        value(-128, 0x01, 0x13, 0x80);
        value(0x0201, 0x02, 0x13, 0x01, 0x02);
        value(-32768, 0x02, 0x13, 0x00, 0x80);
        value(0x7F0201, 0x03, 0x13, 0x01, 0x02, 0x7F);
        value(-1, 0x03, 0x13, 0xFF, 0xFF, 0xFF);
        value(0x04030201, 0x04, 0x13, 1, 2, 3, 4);
        value(Integer.MIN_VALUE, 0x04, 0x13, 0, 0, 0, 0x80);
        value(Float.floatToIntBits(-1.5f), 0x05, 0x13, 0, 0, 0xC0, 0xBF);
        value(Float.floatToIntBits(1.5f), 0x05, 0x13, 0, 0, 0xC0, 0x3F);
        value(0x060504030201L, 0x06, 0x13, 1, 2, 3, 4, 5, 6);
        value(-2, 0x06, 0x13, 0xFE, 0xFF, 0xFF, 0xFF, 0xFF, 0xFF);
        value(0x0807060504030201L, 0x07, 0x13, 1, 2, 3, 4, 5, 6, 7, 8);
        value(Long.MIN_VALUE, 0x07, 0x13, 0, 0, 0, 0, 0, 0, 0, 0x80);
    }

    private static void bcd() {
        value(99, 0x09, 0x13, 0x99);
        value(0, 0x09, 0x13, 0xF0);
        value(-9, 0x09, 0x13, 0xF9);
        value(1234, 0x0A, 0x13, 0x34, 0x12);
        value(-234, 0x0A, 0x13, 0x34, 0xF2);
        value(123456, 0x0B, 0x13, 0x56, 0x34, 0x12);
        value(-23456, 0x0B, 0x13, 0x56, 0x34, 0xF2);
        value(99999999, 0x0C, 0x13, 0x99, 0x99, 0x99, 0x99);
        value(-9999999, 0x0C, 0x13, 0x99, 0x99, 0x99, 0xF9);
        value(120102030405L, 0x0E, 0x13, 0x05, 0x04, 0x03, 0x02, 0x01, 0x12);
        value(-99999999999L, 0x0E, 0x13, 0x99, 0x99, 0x99, 0x99, 0x99, 0xF9);
    }

    private static void sized() {
        value(0, 0x0D, 0x13, 0xC0);
        value(12, 0x0D, 0x13, 0xC1, 0x12);
        value(123456789012345678L, 0x0D, 0x13, 0xC9, 0x78, 0x56, 0x34, 0x12, 0x90, 0x78, 0x56, 0x34, 0x12);
        value(0, 0x0D, 0x13, 0xD0);
        value(-12, 0x0D, 0x13, 0xD1, 0x12);
        value(0, 0x0D, 0x13, 0xD1, 0x00);
        value(-999999999999999999L, 0x0D, 0x13, 0xD9, 0x99, 0x99, 0x99, 0x99, 0x99, 0x99, 0x99, 0x99, 0x99);
        value(0, 0x0D, 0x13, 0xE0);
        value(-1, 0x0D, 0x13, 0xE1, 0xFF);
        value(0x050403020100L, 0x0D, 0x13, 0xE6, 0, 1, 2, 3, 4, 5);
        value(-3, 0x0D, 0x13, 0xE8, 0xFD, 255, 255, 255, 255, 255, 255, 255);
        value(0, 0x0D, 0x13, 0x00);
        value(3, 0x0D, 0x13, 0x03, 0x41, 0x42, 0xFF);
    }

    private static void texts() {
        MeterBus x = new MeterBus();
        Check.decode(x, Check.answer(0x0D, 0x13, 0x03, 0x41, 0x42, 0xFF, 0x0D, 0x13, 0x00, 0x01, 0x13, 0x41,
                0x0D, 0x13, 0xC1, 0x41, 0x0D, 0x13, 0xE1, 0x41, 0x0F, 0x09, 0xFE));
        Check.due("text(0, 0)", x.text(0, 0), 0x41);
        Check.due("text(0, 1)", x.text(0, 1), 0x42);
        Check.due("text(0, 2)", x.text(0, 2), 0xFF);
        Check.due("text(5, 0)", x.text(5, 0), 0x09);
        Check.due("text(5, 1)", x.text(5, 1), 0xFE);
        int[][] none = {{0, 3}, {0, -1}, {1, 0}, {2, 0}, {3, 0}, {4, 0}, {5, 2}, {5, -1}, {6, 0}, {-1, 0},
            {0, Integer.MAX_VALUE}, {0, Integer.MIN_VALUE}, {Integer.MAX_VALUE, 0}};
        for (int[] n : none) {
            Check.dueThrow("text(" + n[0] + ", " + n[1] + ")", x, Check.INDEX, () -> x.text(n[0], n[1]));
        }
        Check.fill(x);
        Check.due("texts do not need the buffer", x.text(0, 1), 0x42);
        longTexts();
        MeterBus y = new MeterBus();
        Check.decode(y, Check.answer(0x0D, 0x13, 0x01, 0x41));
        Check.due("a text of one byte", y.text(0, 0), 0x41);
    }

    private static void longTexts() {
        MeterBus x = new MeterBus();
        int[] longest = new int[236];
        for (int i = 0; i < longest.length; i++) {
            longest[i] = 255 - i;
        }
        Check.due("236 bytes", Check.decode(x, Check.answer(Check.join(Check.bytes(0x0F), longest))), 1);
        Check.due("the last", x.text(0, 235), 20);
        x.clear();
        Check.decode(x, Check.answer(0x0D, 0x13, 0x02, 0x31, 0x32));
        Check.due("a shorter one in its place", x.text(0, 1), 0x32);
        Check.dueThrow("behind it", x, Check.INDEX, () -> x.text(0, 2));
        x.clear();
        Check.decode(x, Check.answer(0x01, 0x13, 0x05));
        Check.dueThrow("a number in its place", x, Check.INDEX, () -> x.text(0, 0));
        for (int i = 1; i < 100; i++) {
            Check.decode(x, Check.answer(Check.join(Check.bytes(0x0D, 0x13, 0xBF), Check.repeat(0xBF, i))));
        }
        Check.due("many long texts", x.count(3), 100);
        for (int i = 1; i < 100; i++) {
            Check.due("text of " + i, x.text(i, 0xBE), i);
        }
    }

    private static void clears() {
        MeterBus x = new MeterBus();
        Check.due("clear of none", x.clear(), 0);
        Check.decode(x, Check.answer(0x01, 0x13, 0x05, 0xC1, 0xFF, 0x7F, 0x93, 0x14, 0x06));
        Check.due("clear of two", x.clear(), 2);
        Check.due("records", x.count(3), 0);
        Check.due("clear again", x.clear(), 0);
        Check.dueThrow("record(0, 0)", x, Check.INDEX, () -> x.record(0, 0));
        Check.due("the buffer stays", x.decode(), 2);
        Check.decode(x, Check.answer(0x08, 0x13));
        x.clear();
        Check.due("place stays", x.place(), 19);
        Check.decode(x, Check.answer(0x00, 0x13, 0x02, 0x13, 0x05, 0x00));
        Check.due("nothing is left of earlier ones", Check.record(x, 0), "0 0 0 0 0 0 1 19");
        Check.due("nothing is left of earlier ones", Check.record(x, 1), "5 2 0 0 0 0 1 19");
    }

    private static void isRefused() {
        MeterBus x = new MeterBus();
        Check.decode(x, Check.answer(0x01, 0x93, 0x14, 0x05, 0x0F, 0x01));
        int[][] none = {{-1, 0}, {2, 0}, {0, -1}, {0, 9}, {1, 7}, {100, 0}, {101, 0}, {Integer.MAX_VALUE, 0},
            {Integer.MIN_VALUE, 0}, {0, Integer.MAX_VALUE}, {0, Integer.MIN_VALUE}};
        for (int[] n : none) {
            Check.dueThrow("record(" + n[0] + ", " + n[1] + ")", x, Check.INDEX, () -> x.record(n[0], n[1]));
        }
        Check.due("the last byte of VIF and VIFEs", x.record(0, 8), 0x14);
    }

    private static void counts() {
        MeterBus x = new MeterBus();
        x.meter(0, 1, 1, 1, 1, 1);
        x.meter(11, 1, 2, 1, 1, 1);
        x.search();
        Check.send(x, Check.shortFrame(0x40, 254));
        Check.decode(x, Check.answer(0x00, 0x13, 0x00, 0x13, 0x00, 0x13));
        int[] due = {2, 27, 2, 3, 1 + 80 + 2 * 3 + 1, 9};
        for (int what = 0; what < 6; what++) {
            Check.due("count(" + what + ")", x.count(what), due[what]);
        }
        for (int what : new int[] {-1, 6, Integer.MAX_VALUE, Integer.MIN_VALUE}) {
            Check.dueThrow("count(" + what + ")", x, Check.INDEX, () -> x.count(what));
        }
    }
}
