/** The terms FRAME, BITS, CHECK, STUFFED and ON THE WIRE, with frames whose bits stand here in full. */
public final class FrameTest {
    private static final Due DUE = new Due();
    private static final String TAIL = "1" + "1" + "1" + "1111111";

    public static void main(String[] args) {
        shortIdentifiers();
        longIdentifiers();
        numbersOfBytes();
        bitsOfShortFrames();
        bitsOfLongFrames();
        bytesOfData();
        checkOfFifteen();
        stuffedBehindFive();
        stuffedOnesCount();
        stuffedAcrossTheParts();
        noneBehindTheCheck();
        tailOfTen();
        DUE.end();
    }

    private static String laid(boolean isLong, int identifier, long data, int n) {
        SharedWire wire = Play.wanting(0, isLong, identifier, data, n);
        return Bits.tapeOf(wire, wire.tape(0));
    }

    private static void begins(String what, boolean isLong, int identifier, long data, int n, String due) {
        DUE.equal(what, laid(isLong, identifier, data, n).substring(0, due.length()), due);
    }

    private static void whole(String what, boolean isLong, int identifier, long data, int n, String due) {
        DUE.equal(what, laid(isLong, identifier, data, n), due + TAIL);
        sent(what, isLong, identifier, data, n, due);
    }

    /** Level by level, with an answer, as others on the wire see it. */
    private static void sent(String what, boolean isLong, int identifier, long data, int n, String due) {
        SharedWire wire = Play.wanting(2, isLong, identifier, data, n);
        String levels = due + "1" + "0" + "1" + "1111111";
        DUE.equal(what + ", sent", Play.levels(wire, levels.length()), levels);
        String frame = identifier + " " + (isLong ? 1 : 0) + " " + n + " " + (n == 8 ? data : data & (1L << 8 * n) - 1);
        DUE.equal(what + ", received", Play.frame(wire, 1), frame);
    }

    private static void limit(String what, boolean isLong, int identifier, int n, boolean due) {
        if (due) {
            SharedWire wire = new SharedWire();
            DUE.equal(what, wire.want(1, isLong, identifier, 0, n), 1);
            wire.step(wire.tape(1), 0);
            DUE.equal(what + ", received", Play.frame(wire, 0), identifier + " " + (isLong ? 1 : 0) + " " + n + " 0");
        } else {
            new Twins(DUE, SharedWire::new).refuse(what, IllegalArgumentException.class,
                    w -> w.want(1, isLong, identifier, 0, n));
        }
    }

    /** "SHORT, 0 .. 2047" */
    private static void shortIdentifiers() {
        limit("short -1", false, -1, 0, false);
        limit("short 0", false, 0, 0, true);
        limit("short 1", false, 1, 0, true);
        limit("short 2046", false, 2046, 0, true);
        limit("short 2047", false, 2047, 0, true);
        limit("short 2048", false, 2048, 0, false);
        limit("short, the lowest of all", false, Integer.MIN_VALUE, 0, false);
        limit("short, the highest of all", false, Integer.MAX_VALUE, 0, false);
        limit("short with the bits of a long one", false, 1 << 18, 0, false);
    }

    /** "or LONG, 0 .. 2^29 - 1" */
    private static void longIdentifiers() {
        limit("long -1", true, -1, 0, false);
        limit("long 0", true, 0, 0, true);
        limit("long 1", true, 1, 0, true);
        limit("long 2047", true, 2047, 0, true);
        limit("long 2048", true, 2048, 0, true);
        limit("long 2^29 - 2", true, 536870910, 0, true);
        limit("long 2^29 - 1", true, 536870911, 0, true);
        limit("long 2^29", true, 536870912, 0, false);
        limit("long, the lowest of all", true, Integer.MIN_VALUE, 0, false);
        limit("long, the highest of all", true, Integer.MAX_VALUE, 0, false);
    }

    /** "and 0 .. 8 bytes of DATA" */
    private static void numbersOfBytes() {
        for (int isLong = 0; isLong < 2; isLong++) {
            for (int n = -1; n <= 9; n++) {
                limit(n + " bytes, long " + isLong, isLong == 1, 5, n, n >= 0 && n <= 8);
            }
            limit("the lowest number", isLong == 1, 5, Integer.MIN_VALUE, false);
            limit("the highest number", isLong == 1, 5, Integer.MAX_VALUE, false);
        }
    }

    /** "for a short one: the 11 bits of the identifier, the highest first (of all numbers), 0 0 0" */
    private static void bitsOfShortFrames() {
        whole("short 1365 with two bytes", false, 0b10101010101, 0x5a5a, 2,
                "0" + "10101010101" + "000" + "00" + "1" + "10" + "01011010" + "01011010" + "110101010010010");
        begins("the highest bit alone", false, 1024, 0, 8,
                "0" + "1" + "00000" + "1" + "00000" + "1" + "000" + "1000");
        begins("the lowest bit alone", false, 1, 0, 8, "00000" + "1" + "00000" + "1" + "01" + "000" + "1000");
    }

    /** "for a long one: the 11 highest bits of the identifier, 1 1, the other 18, 0 0 0" */
    private static void bitsOfLongFrames() {
        whole("long 0x15555555 with a byte", true, 0x15555555, 0x5a, 1,
                "0" + "10101010101" + "11" + "010101010101010101" + "000" + "00" + "1" + "01" + "01011010"
                        + "0010101" + "00000" + "1" + "001");
        whole("nothing but 1", true, 536870911, 0, 0,
                "0" + "111110".repeat(6) + "1" + "00000" + "1" + "00" + "001110010001000");
        begins("the parts meet with 1 1 1 1", true, 0b10101010101 << 18 | 0b101010101010101010, 0, 8,
                "0" + "10101010101" + "11" + "101010101010101010" + "000" + "1000");
        begins("the parts meet with 0 1 1 0", true, 0b10101010100 << 18 | 0b011001100110011001, 0, 8,
                "0" + "10101010100" + "11" + "011001100110011001" + "000" + "1000");
    }

    /** "the number of bytes (4 bits); the bytes": the lowest first, but of each byte the highest bit. */
    private static void bytesOfData() {
        whole("eight bytes", false, 0b10101010101, 0xa5c396693c5a1e87L, 8,
                "0" + "10101010101" + "000" + "1000" + "10000111" + "00011110" + "01011010" + "00111100"
                        + "01101001" + "10010110" + "11000011" + "10100101" + "110111001010000");
        begins("seven bytes", false, 0b10101010101, 0x1e87, 7,
                "0" + "10101010101" + "000" + "0111" + "10000111" + "00011110");
        whole("one byte", false, 0, 1, 1,
                "00000" + "1" + "00000" + "1" + "00000" + "1" + "0001" + "00000" + "1" + "001"
                        + "00000" + "1" + "011011111" + "0" + "1");
        whole("no byte", false, 8, -1, 0,
                "00000" + "1" + "0001" + "00000" + "1" + "00000" + "1" + "101111000110011");
    }

    /** "c is 0 at first", so that 0 in front leaves it 0; "if x is 1, c becomes c xor 0x4599" */
    private static void checkOfFifteen() {
        whole("nothing but 0", false, 0, 0, 0, "000001".repeat(6) + "0000");
        whole("nothing but 1", false, 2047, 0xff, 1,
                "0" + "11111" + "0" + "11111" + "0" + "1" + "00000" + "1" + "0" + "11111" + "0" + "11111" + "0"
                        + "11101000010101");
    }

    /** "behind each five alike one behind the other ... comes one more, the other one": four, five and six */
    private static void stuffedBehindFive() {
        begins("four 0", false, 0b00010101010, 0, 8, "0" + "00010101010" + "000" + "1000");
        begins("five 0", false, 0b00001010101, 0, 8, "00000" + "1" + "1010101" + "000" + "1000");
        begins("six 0", false, 0b00000101010, 0, 8, "00000" + "1" + "0101010" + "000" + "1000");
        begins("four 1", false, 0b01111010101, 0, 8, "0" + "01111010101" + "000" + "1000");
        begins("five 1", false, 0b01111101010, 0, 8, "0" + "011111" + "0" + "01010" + "000" + "1000");
        begins("six 1", false, 0b01111110101, 0, 8, "0" + "011111" + "0" + "10101" + "000" + "1000");
    }

    /** "(those that were stuffed in counted)" */
    private static void stuffedOnesCount() {
        begins("with three 1 behind it", false, 0b00001110101, 0, 8, "00000" + "1" + "1110101" + "000" + "1000");
        begins("with four 1 behind it", false, 0b00001111010, 0, 8,
                "00000" + "1" + "1111" + "0" + "010" + "000" + "1000");
        begins("with five 1 behind it", false, 0b00001111101, 0, 8,
                "00000" + "1" + "1111" + "0" + "101" + "000" + "1000");
        begins("with three 0 behind it", false, 0b01111100010, 0, 8,
                "0" + "011111" + "0" + "00010" + "000" + "1000");
        begins("with four 0 behind it", false, 0b01111100001, 0, 8,
                "0" + "011111" + "0" + "0000" + "1" + "1" + "000" + "1000");
    }

    /** "STUFFED are these bits", all of them, whatever parts five alike belong to. */
    private static void stuffedAcrossTheParts() {
        begins("identifier and 0 0 0", false, 0b10101010100, 0, 8, "0" + "10101010100" + "000" + "1" + "1000");
        begins("0 0 0 and number", false, 0b10101010101, 0, 2, "0" + "10101010101" + "000" + "00" + "1" + "10");
        begins("number and bytes", false, 0b10101010101, 0x15, 8,
                "0" + "10101010101" + "000" + "1000" + "00" + "1" + "010101");
        begins("bytes", false, 0b10101010101, 0x2aa8, 8,
                "0" + "10101010101" + "000" + "1000" + "10101000" + "00" + "1" + "101010");
        begins("1 1 of a long one", true, 0b10101010111 << 18 | 0b011001100110011001, 0, 8,
                "0" + "10101010111" + "11" + "0" + "011001100110011001" + "000" + "1000");
        whole("number and check", false, 8, 0, 0,
                "00000" + "1" + "0001" + "00000" + "1" + "00000" + "1" + "101111000110011");
    }

    /** "but none behind the last bit of the check", and one behind the last but one */
    private static void noneBehindTheCheck() {
        whole("the last four are 0", false, 114, 0, 0, "00000" + "1" + "1110010" + "0000" + "1" + "000" + "110011101110000");
        whole("the last five are 0", false, 9, 0, 0,
                "00000" + "1" + "0001001" + "00000" + "1" + "00" + "11111" + "0" + "0000" + "1" + "1" + "00000");
        whole("five 0 before the last", false, 7, 0, 0,
                "00000" + "1" + "0000111" + "00000" + "1" + "00" + "0101011111" + "0" + "0000" + "1" + "0");
        whole("the last four are 1", false, 98, 0, 0,
                "00000" + "1" + "1100010" + "0000" + "1" + "00000" + "1" + "1111" + "0" + "010001111");
        whole("the last five are 1", false, 23, 0, 0,
                "00000" + "1" + "0010111" + "00000" + "1" + "00" + "101001000011111");
        whole("five 1 before the last", false, 30, 0, 0,
                "00000" + "1" + "0011110" + "0000" + "1" + "000" + "01011100011111" + "0" + "1");
    }

    /** "ON THE WIRE come, behind the stuffed bits, 1 ..., the ANSWER (1 by who sends), 1 ..., and 1 seven times." */
    private static void tailOfTen() {
        SharedWire wire = Play.wanting(0, false, 114, 0, 0);
        int length = wire.tape(0);
        DUE.equal("length", length, 36 + 10);
        DUE.equal("the last of the check", wire.bit(35), 0);
        DUE.equal("the tail", Bits.tapeOf(wire, length).substring(36), "1111111111");
        DUE.refuses("one behind", IndexOutOfBoundsException.class, () -> wire.bit(46));
        wire.step(45, 0);
        DUE.equal("busy before the last", wire.wire(), 1);
        wire.step(1, 0);
        DUE.equal("pause behind it", wire.wire(), 3);
    }
}
