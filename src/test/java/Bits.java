/**
 * Frames as texts of '0' and '1', written from the document by other means than the class uses:
 * the check by long division, stuffing and reading over whole texts.
 */
final class Bits {
    /** x^15 and the bits of 0x4599. */
    private static final String DIVISOR = "1100010110011001";

    private Bits() {
    }

    static String number(long value, int width) {
        StringBuilder text = new StringBuilder();
        for (int i = width - 1; i >= 0; i--) {
            text.append((value >> i & 1) == 1 ? '1' : '0');
        }
        return text.toString();
    }

    static String head(boolean isLong, int identifier) {
        return isLong
                ? "0" + number(identifier >> 18, 11) + "11" + number(identifier & 0x3ffff, 18) + "000"
                : "0" + number(identifier, 11) + "000";
    }

    static String bytes(long data, int n) {
        StringBuilder text = new StringBuilder();
        for (int i = 0; i < n; i++) {
            text.append(number(data >> 8 * i & 0xff, 8));
        }
        return text.toString();
    }

    static String check(String bits) {
        char[] rest = (bits + "0".repeat(15)).toCharArray();
        for (int i = 0; i < bits.length(); i++) {
            if (rest[i] == '1') {
                for (int k = 0; k < DIVISOR.length(); k++) {
                    rest[i + k] = rest[i + k] == DIVISOR.charAt(k) ? '0' : '1';
                }
            }
        }
        return new String(rest, bits.length(), 15);
    }

    static boolean endsAlike(String bits) {
        return bits.endsWith("00000") || bits.endsWith("11111");
    }

    static char other(char bit) {
        return bit == '0' ? '1' : '0';
    }

    static String flipped(String bits, int at) {
        return bits.substring(0, at) + other(bits.charAt(at)) + bits.substring(at + 1);
    }

    static String stuffed(String bits) {
        String out = "";
        for (int i = 0; i < bits.length(); i++) {
            out += bits.charAt(i);
            if (endsAlike(out) && i < bits.length() - 1) {
                out += other(bits.charAt(i));
            }
        }
        return out;
    }

    /** The bits on the wire of whatever bits a check is put behind. */
    static String onWire(String beforeCheck, char answer) {
        return stuffed(beforeCheck + check(beforeCheck)) + "1" + answer + "1" + "1111111";
    }

    static String onWire(boolean isLong, int identifier, long data, int n) {
        return onWire(head(isLong, identifier) + number(n, 4) + bytes(data, n), '1');
    }

    static String tapeOf(SharedWire wire, int length) {
        StringBuilder text = new StringBuilder();
        for (int i = 0; i < length; i++) {
            text.append(wire.bit(i));
        }
        return text.toString();
    }

    static void lay(SharedWire wire, String bits) {
        wire.wipe();
        for (int from = 0; from < bits.length(); from += 64) {
            String part = bits.substring(from, Math.min(bits.length(), from + 64));
            long word = 0;
            for (int i = 0; i < part.length(); i++) {
                word |= (long) (part.charAt(i) - '0') << i;
            }
            wire.put(word, part.length());
        }
    }
}
