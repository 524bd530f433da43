import java.math.BigInteger;
import java.util.ArrayList;
import java.util.List;

/** A second decoder, written from the document; records are told as Check.record() tells them. */
final class TwinDecoder {
    /** A fault is thrown here, by its number and place. */
    private static final class Fault extends RuntimeException {
        private static final long serialVersionUID = 1;
        private final int number;
        private final int place;

        Fault(int number, int place) {
            this.number = number;
            this.place = place;
        }
    }

    private final int[] frame;
    private final int before;
    private final List<String> records = new ArrayList<>();
    private int place = MeterBus.NONE;
    private int at = 19;
    private int end = 0;
    private boolean more = false;

    TwinDecoder(int[] frame, int before) {
        this.frame = frame;
        this.before = before;
    }

    List<String> records() {
        return records;
    }

    int place() {
        return place;
    }

    boolean endsByMore() {
        return more;
    }

    /** 0, or minus the fault. */
    int decode() {
        try {
            head();
            while (at < end) {
                item();
            }
            return 0;
        } catch (Fault fault) {
            place = fault.place;
            return -fault.number;
        }
    }

    private void head() {
        expect(0, 0x68, 0x68);
        expect(1, 0x0F, 0xFC);
        expect(2, frame[1], frame[1]);
        expect(3, 0x68, 0x68);
        int all = frame[1] + 6;
        if (frame.length != all) {
            throw new Fault(1, Math.min(frame.length, all));
        }
        expect(4, 0x08, 0x08);
        expect(6, 0x72, 0x72);
        expect(all - 1, 0x16, 0x16);
        end = all - 2;
        int sum = 0;
        for (int i = 4; i < end; i++) {
            sum = (sum + frame[i]) % 256;
        }
        if (sum != frame[end]) {
            throw new Fault(2, end);
        }
        for (int i = 7; i <= 10; i++) {
            if (!String.format("%02x", frame[i]).matches("[0-9]+")) {
                throw new Fault(3, i);
            }
        }
    }

    private void expect(int i, int low, int high) {
        if (i >= frame.length || frame[i] < low || frame[i] > high) {
            throw new Fault(1, i);
        }
    }

    private int next() {
        if (at >= end) {
            throw new Fault(4, end);
        }
        return frame[at++];
    }

    private void item() {
        int start = at;
        int dif = next();
        if (dif == 0x1F && at < end) {
            throw new Fault(4, at);
        }
        if (dif == 0x1F || dif == 0x2F) {
            more = dif == 0x1F;
            return;
        }
        String record;
        if (dif == 0x0F) {
            record = (end - at) + " 15 0 0 0 0 0" + letters(end - at);
        } else if (dif % 16 == 15) {
            throw new Fault(9, start);
        } else {
            record = ordinary(start, dif);
        }
        if (before + records.size() == 100) {
            throw new Fault(10, start);
        }
        records.add(record);
    }

    private String letters(int n) {
        StringBuilder all = new StringBuilder(n == 0 ? "" : " :");
        for (int b : take(n)) {
            all.append(' ').append(b);
        }
        return all.toString();
    }

    private int[] take(int n) {
        if (at + n > end) {
            throw new Fault(4, end);
        }
        int[] part = java.util.Arrays.copyOfRange(frame, at, at + n);
        at += n;
        return part;
    }

    private String ordinary(int start, int dif) {
        String storage = String.valueOf(dif / 64 % 2);
        String tariff = "0";
        String unit = "0";
        int last = dif;
        for (int i = 1; last >= 128; i++) {
            last = next();
            if (i == 11) {
                throw new Fault(5, at - 1);
            }
            storage = lowBits(last % 16, 4) + storage;
            tariff = lowBits(last / 16 % 4, 2) + tariff;
            unit = lowBits(last / 64 % 2, 1) + unit;
        }
        int vifs = 0;
        StringBuilder row = new StringBuilder();
        do {
            last = next();
            vifs++;
            if (vifs == 12) {
                throw new Fault(6, at - 1);
            }
            row.append(' ').append(last);
        } while (last >= 128);
        tariff = tariff.length() == 1 ? tariff : tariff.substring(0, tariff.length() - 1);
        unit = unit.length() == 1 ? unit : unit.substring(0, unit.length() - 1);
        String rest = " " + dif % 16 + " " + dif / 16 % 4 + " " + Long.parseLong(storage, 2) + " "
                + Long.parseLong(tariff, 2) + " " + Long.parseLong(unit, 2) + " " + vifs + row;
        return value(start, dif % 16, rest);
    }

    private static String lowBits(int number, int n) {
        String all = "0000" + Integer.toBinaryString(number);
        return all.substring(all.length() - n);
    }

    private String value(int start, int code, String rest) {
        switch (code) {
            case 0: return 0 + rest;
            case 1: case 2: case 3: case 4: case 6: return number(code) + rest;
            case 5: return number(4) + rest;
            case 7: return number(8) + rest;
            case 9: case 10: case 11: case 12: return digits(code - 8, true) + rest;
            case 14: return digits(6, true) + rest;
            case 13: return sized(rest);
            default: throw new Fault(9, start);
        }
    }

    private String sized(String rest) {
        int v = next();
        if (v <= 0xBF) {
            return v + rest + letters(v);
        }
        if (v >= 0xC0 && v <= 0xC9) {
            return digits(v - 0xC0, false) + rest;
        }
        if (v >= 0xD0 && v <= 0xD9) {
            return digits(v - 0xD0, false).negate() + rest;
        }
        if (v >= 0xE0 && v <= 0xE8) {
            return number(v - 0xE0) + rest;
        }
        throw new Fault(8, at - 1);
    }

    private BigInteger number(int n) {
        int[] part = take(n);
        byte[] highestFirst = new byte[n];
        for (int i = 0; i < n; i++) {
            highestFirst[n - 1 - i] = (byte) part[i];
        }
        return n == 0 ? BigInteger.ZERO : new BigInteger(highestFirst);
    }

    private BigInteger digits(int n, boolean mayBeMinus) {
        int[] part = take(n);
        StringBuilder all = new StringBuilder("0");
        for (int i = n - 1; i >= 0; i--) {
            all.append(String.format("%02x", part[i]));
        }
        boolean minus = mayBeMinus && all.charAt(1) == 'f';
        if (minus) {
            all.setCharAt(1, '0');
        }
        for (int i = 0; i < n; i++) {
            int from = all.length() - 2 * i - 2;
            if (!all.substring(from, from + 2).matches("[0-9]+")) {
                throw new Fault(7, at - n + i);
            }
        }
        BigInteger number = new BigInteger(all.toString());
        return minus ? number.negate() : number;
    }
}
