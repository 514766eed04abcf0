/** Promise 13. */
public final class ReadTest {
    private static final Due DUE = new Due();

    public static void main(String[] args) {
        faultsOfForm();
        faultsOfTheCheck();
        faultsOfStuffing();
        noneStuffedBehindTheCheck();
        tooShortAndTooLong();
        takesAnythingWhereItMay();
        everyFlippedBit();
        DUE.end();
    }

    private static void reads(String what, String bits, int due) {
        SharedWire wire = new SharedWire();
        Bits.lay(wire, bits);
        DUE.equal(what, wire.read(), due);
        DUE.equal(what + ", read again", wire.read(), due);
        DUE.equal(what + ", length", wire.wipe(), bits.length());
    }

    private static void faultsOfForm() {
        String bits = Bits.onWire(false, 5, 0xa5, 1);
        int delimiter = bits.length() - 10;
        reads("right", bits, 0);
        reads("first bit 1", Bits.flipped(bits, 0), 3000);
        reads("only a 1", "1", 3000);
        reads("delimiter 0", Bits.flipped(bits, delimiter), 3000 + delimiter);
        reads("answer 0", Bits.flipped(bits, delimiter + 1), 0);
        for (int i = 2; i < 10; i++) {
            reads("tail bit " + i + " 0", Bits.flipped(bits, delimiter + i), 3000 + delimiter + i);
        }
    }

    private static void faultsOfTheCheck() {
        String before = Bits.head(true, 123456) + Bits.number(2, 4) + Bits.bytes(0x1234, 2);
        String check = Bits.check(before);
        for (int i = 0; i < 15; i++) {
            String stuffed = Bits.stuffed(before + Bits.flipped(check, i));
            int end = stuffed.length() + 2;
            reads("check bit " + i, stuffed + "111" + "1111111", 2000 + end);
            reads("check bit " + i + ", end 0", stuffed + "110" + "1111111", 2000 + end);
            reads("check bit " + i + ", answer 0", stuffed + "101" + "1111111", 2000 + end);
            reads("check bit " + i + ", delimiter 0", stuffed + "011" + "1111111", 3000 + end - 2);
            reads("check bit " + i + ", ends before", stuffed + "11", 4000 + end);
        }
    }

    private static void faultsOfStuffing() {
        reads("five 0", "00000", 4005);
        reads("six 0", "000000", 1005);
        reads("five 0, a 1 stuffed in", "000001", 4006);
        reads("four 1 behind it", "000001" + "1111", 4010);
        reads("and a fifth, as the one stuffed in counts", "000001" + "1111" + "1", 1010);
        reads("a 0 stuffed in behind", "000001" + "1111" + "0" + "0000" + "0", 1015);
        reads("0 and six 1", "0111111", 1006);
    }

    /** Of these frames the check ends with five alike, and the delimiter follows at once. */
    private static void noneStuffedBehindTheCheck() {
        int found = 0;
        for (int identifier = 0; identifier < 2048; identifier++) {
            String plain = Bits.head(false, identifier) + "0000";
            plain += Bits.check(plain);
            if (Bits.endsAlike(plain)) {
                found++;
                String bits = Bits.stuffed(plain) + "1" + "1" + "1" + "1111111";
                reads("identifier " + identifier, bits, 0);
                SharedWire wire = new SharedWire();
                wire.want(0, false, identifier, 0, 0);
                DUE.equal("tape of " + identifier, Bits.tapeOf(wire, wire.tape(0)), bits);
                DUE.equal("sent " + identifier, wire.step(bits.length(), 0), 1);
                DUE.equal("received " + identifier, Play.frame(wire, 1), identifier + " 0 0 0");
            }
        }
        DUE.equal("there are such frames", found > 10, true);
    }

    private static void tooShortAndTooLong() {
        String bits = Bits.onWire(true, 99, 0x77, 1);
        for (int length = 0; length < bits.length(); length++) {
            reads("the first " + length, bits.substring(0, length), 4000 + length);
        }
        reads("a 1 behind", bits + "1", 5000 + bits.length());
        reads("a 0 behind", bits + "0", 5000 + bits.length());
        reads("much behind", bits + "0101010", 5000 + bits.length());
        reads("full", bits + "0".repeat(200 - bits.length()), 5000 + bits.length());
    }

    private static void takesAnythingWhereItMay() {
        for (int i = 0; i < 4; i++) {
            String twelfth = Integer.toString(i & 1);
            String fourteenth = Integer.toString(i >> 1);
            reads("short " + i, Bits.onWire("0" + Bits.number(700, 11) + twelfth + "0" + fourteenth + "0000", '1'), 0);
        }
        for (int i = 0; i < 16; i++) {
            String head = "0" + Bits.number(700, 11) + (i & 1) + "1" + Bits.number(5555, 18) + Bits.number(i >> 1, 3);
            reads("long " + i, Bits.onWire(head + "0001" + "01010101", '0'), 0);
        }
        for (int number = 0; number < 16; number++) {
            String data = Bits.bytes(0x7766554433221100L, Math.min(8, number));
            reads("number " + number, Bits.onWire(Bits.head(false, 7) + Bits.number(number, 4) + data, '1'), 0);
        }
    }

    /** Whatever one bit is wrong, a frame is refused, but for the answer. */
    private static void everyFlippedBit() {
        SharedWire wire = new SharedWire();
        wire.want(0, true, 0x0abcdef0, 0xff00ff, 3);
        int length = wire.tape(0);
        for (int i = 0; i < length; i++) {
            wire.flip(i);
            DUE.equal("bit " + i + " wrong", wire.read() == 0, i == length - 9);
            wire.flip(i);
        }
        DUE.equal("as it was", wire.read(), 0);
    }
}
