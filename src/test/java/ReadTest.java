/** Promise 13, and what TO READ is. */
public final class ReadTest {
    private static final Due DUE = new Due();

    public static void main(String[] args) {
        firstBit();
        faultsOfForm();
        faultsOfTheCheck();
        faultsOfStuffing();
        everyBitStuffedIn();
        noneStuffedBehindTheCheck();
        oneStuffedBehindTheCheckIsTooMuch();
        zeroForAFrame();
        faultAndBit();
        endsTooEarly();
        somethingBehind();
        takesAnythingWhereItMay();
        numbersOfBytes();
        everyFlippedBit();
        changesNothing();
        DUE.end();
    }

    private static void reads(String what, String bits, int due) {
        SharedWire wire = new SharedWire();
        Bits.lay(wire, bits);
        DUE.equal(what, wire.read(), due);
        DUE.equal(what + ", read again", wire.read(), due);
        DUE.equal(what + ", length", wire.wipe(), bits.length());
    }

    /** "The first bit must be 0 (else fault 3)." */
    private static void firstBit() {
        reads("a 0", "0", 4001);
        reads("a 1", "1", 3000);
        reads("a frame with 1", Bits.flipped(Bits.onWire(false, 5, 0xa5, 1), 0), 3000);
        reads("200 of 1", "1".repeat(200), 3000);
    }

    /**
     * "Then the delimiter must be 1 (else fault 3), the answer may be anything, its end must be 1 (else
     * fault 3) ...; then seven times 1 (else fault 3)."
     */
    private static void faultsOfForm() {
        String bits = Bits.onWire(false, 5, 0xa5, 1);
        int delimiter = bits.length() - 10;
        reads("right", bits, 0);
        reads("delimiter 0", Bits.flipped(bits, delimiter), 3000 + delimiter);
        reads("answer 0", Bits.flipped(bits, delimiter + 1), 0);
        reads("delimiter and answer 0", Bits.flipped(Bits.flipped(bits, delimiter), delimiter + 1), 3000 + delimiter);
        for (int i = 2; i < 10; i++) {
            reads("tail bit " + i + " 0", Bits.flipped(bits, delimiter + i), 3000 + delimiter + i);
            reads("and answer 0", Bits.flipped(Bits.flipped(bits, delimiter + 1), delimiter + i), 3000 + delimiter + i);
        }
    }

    /** "but if the check is not that of the bits, it is fault 2 there, whatever it is": at the end of the answer */
    private static void faultsOfTheCheck() {
        String before = Bits.head(true, 123456) + Bits.number(2, 4) + Bits.bytes(0x1234, 2);
        String check = Bits.check(before);
        for (int i = 0; i < 15; i++) {
            String stuffed = Bits.stuffed(before + Bits.flipped(check, i));
            int end = stuffed.length() + 2;
            reads("check bit " + i, stuffed + "111" + "1111111", 2000 + end);
            reads("check bit " + i + ", end 0", stuffed + "110" + "1111111", 2000 + end);
            reads("check bit " + i + ", answer 0", stuffed + "101" + "1111111", 2000 + end);
            reads("check bit " + i + ", delimiter 0", stuffed + "011" + "1111111", 3000 + end - 2);
            reads("check bit " + i + ", ends before", stuffed + "11", 4000 + end);
        }
    }

    /** "a bit where one is stuffed in must be the other one (else fault 1), and is left out" */
    private static void faultsOfStuffing() {
        reads("four 0 and a 1", "00001", 4005);
        reads("five 0", "00000", 4005);
        reads("six 0", "000000", 1005);
        reads("seven 0", "0000000", 1005);
        reads("five 0, a 1 stuffed in", "000001", 4006);
        reads("four 1 behind it", "000001" + "1111", 4010);
        reads("and a fifth, as the one stuffed in counts", "000001" + "1111" + "1", 1010);
        reads("a 0 stuffed in behind", "000001" + "1111" + "0" + "0000" + "0", 1015);
        reads("0 and five 1", "011111", 4006);
        reads("0 and six 1", "0111111", 1006);
    }

    /** In a frame of nothing but 0 and in one of nothing but 1, each bit stuffed in is made a wrong one. */
    private static void everyBitStuffedIn() {
        String[] plains = {Bits.head(true, 0) + "1000" + "0".repeat(64), Bits.head(false, 2047) + "1000" + "1".repeat(64)};
        for (String plain : plains) {
            String bits = Bits.onWire(plain, '1');
            int found = 0;
            for (int i = 5; i < bits.length() - 10; i++) {
                if (Bits.endsAlike(bits.substring(0, i))) {
                    found++;
                    reads("stuffed in at " + i, Bits.flipped(bits, i), 1000 + i);
                }
            }
            DUE.equal("many are stuffed in", found > 10, true);
        }
        reads("five 0 before the last of the check", Bits.flipped(Bits.onWire(false, 7, 0, 0), 36), 1036);
        reads("five 1 before the last of the check", Bits.flipped(Bits.onWire(false, 30, 0, 0), 35), 1035);
    }

    /** "it takes bits as stuffed ones until it has a frame's": the delimiter follows at once behind five alike */
    private static void noneStuffedBehindTheCheck() {
        int found = 0;
        for (int identifier = 0; identifier < 2048; identifier++) {
            String plain = Bits.head(false, identifier) + "0000";
            plain += Bits.check(plain);
            if (Bits.endsAlike(plain)) {
                found++;
                String bits = Bits.stuffed(plain) + "1" + "1" + "1" + "1111111";
                reads("identifier " + identifier, bits, 0);
                SharedWire wire = Play.wanting(0, false, identifier, 0, 0);
                DUE.equal("tape of " + identifier, Bits.tapeOf(wire, wire.tape(0)), bits);
                DUE.equal("sent " + identifier, wire.step(bits.length(), 0), 1);
                DUE.equal("received " + identifier, Play.frame(wire, 1), identifier + " 0 0 0");
            }
        }
        DUE.equal("there are such frames", found > 10, true);
    }

    private static void oneStuffedBehindTheCheckIsTooMuch() {
        String zeros = Bits.onWire(false, 9, 0, 0);
        reads("a 1 behind 0 0 0 0 0", beforeDelimiter(zeros, "1"), 5000 + zeros.length());
        String ones = Bits.onWire(false, 23, 0, 0);
        reads("a 0 behind 1 1 1 1 1", beforeDelimiter(ones, "0"), 3000 + ones.length() - 10);
    }

    private static String beforeDelimiter(String bits, String more) {
        int delimiter = bits.length() - 10;
        return bits.substring(0, delimiter) + more + bits.substring(delimiter);
    }

    /** "Reads the tape from its beginning: 0, if it is a frame on the wire, as it is for a reader" */
    private static void zeroForAFrame() {
        int[][] frames = {{0, 0}, {0, 2047}, {1, 0}, {1, 536870911}};
        for (int[] frame : frames) {
            for (int n = 0; n <= 8; n += 8) {
                String bits = Bits.onWire(frame[0] == 1, frame[1], -1, n);
                reads("frame " + frame[1], bits, 0);
                reads("frame " + frame[1] + " behind a 1", "1" + bits, 3000);
                isNoFrame("frame " + frame[1] + " behind a 0", "0" + bits);
            }
        }
    }

    /** "otherwise 1000 times the fault and the bit with which it is found": from bit 0 to the last of a long frame */
    private static void faultAndBit() {
        String bits = Bits.onWire(true, 0, 0, 8);
        int last = bits.length() - 1;
        DUE.equal("a fault above bit 99 too", last > 99, true);
        reads("fault 3 at bit 0", Bits.flipped(bits, 0), 3000);
        reads("fault 1 at bit 5", Bits.flipped(bits, 5), 1005);
        reads("fault 2 at the end of the answer", Bits.flipped(Bits.flipped(bits, last - 10), last - 7), 2000 + last - 7);
        reads("fault 3 at the last", Bits.flipped(bits, last), 3000 + last);
    }

    /** "4000 and its length (so 4000 for an empty one), if it ends too early" */
    private static void endsTooEarly() {
        reads("empty", "", 4000);
        String[] frames = {Bits.onWire(true, 99, 0x77, 1), Bits.onWire(false, 0, 0, 8), Bits.onWire(false, 9, 0, 0)};
        for (String bits : frames) {
            for (int length = 0; length < bits.length(); length++) {
                reads("the first " + length, bits.substring(0, length), 4000 + length);
            }
            reads("all of it", bits, 0);
        }
    }

    /** "and nothing behind it"; "5000 and the first bit behind": one, whatever it is, or many */
    private static void somethingBehind() {
        String bits = Bits.onWire(true, 99, 0x77, 1);
        reads("nothing behind", bits, 0);
        reads("a 1 behind", bits + "1", 5000 + bits.length());
        reads("a 0 behind", bits + "0", 5000 + bits.length());
        reads("much behind", bits + "0101010", 5000 + bits.length());
        reads("another frame behind", bits + bits, 5000 + bits.length());
        reads("full", bits + "0".repeat(200 - bits.length()), 5000 + bits.length());
        reads("a fault comes before", Bits.flipped(bits, bits.length() - 1) + "0", 3000 + bits.length() - 1);
    }

    /** "(the 12th, and what stands for 0 0 0, may be anything, but the 13th)" */
    private static void takesAnythingWhereItMay() {
        for (int i = 0; i < 4; i++) {
            String twelfth = Integer.toString(i & 1);
            String fourteenth = Integer.toString(i >> 1);
            reads("short " + i, Bits.onWire("0" + Bits.number(700, 11) + twelfth + "0" + fourteenth + "0000", '1'), 0);
        }
        for (int i = 0; i < 16; i++) {
            String head = "0" + Bits.number(700, 11) + (i & 1) + "1" + Bits.number(5555, 18) + Bits.number(i >> 1, 3);
            reads("long " + i, Bits.onWire(head + "0001" + "01010101", '0'), 0);
        }
        String asShort = "0" + Bits.number(700, 11) + "010" + "0001" + "01010101";
        isNoFrame("a 13th bit of 1 in a short one", Bits.onWire(asShort, '1'));
    }

    /** "a number of bytes above 8 counts as 8", not as more or less */
    private static void numbersOfBytes() {
        for (int number = 0; number < 16; number++) {
            String head = Bits.head(false, 7) + Bits.number(number, 4);
            int n = Math.min(8, number);
            reads("number " + number, Bits.onWire(head + Bits.bytes(0x7766554433221100L, n), '1'), 0);
            String bytes = Bits.bytes(0x7766554433221100L, n);
            isNoFrame(number + ", a byte more", Bits.onWire(head + bytes + "01010101", '1'));
            if (n > 0) {
                isNoFrame(number + ", a byte less", Bits.onWire(head + bytes.substring(8), '1'));
            }
        }
    }

    private static void isNoFrame(String what, String bits) {
        SharedWire wire = new SharedWire();
        Bits.lay(wire, bits);
        DUE.equal(what, wire.read() != 0, true);
    }

    /** Whatever one bit is wrong, a frame is refused, but for the answer. */
    private static void everyFlippedBit() {
        SharedWire wire = new SharedWire();
        wire.want(0, true, 0x0abcdef0, 0xff00ff, 3);
        int length = wire.tape(0);
        for (int i = 0; i < length; i++) {
            wire.flip(i);
            DUE.equal("bit " + i + " wrong", wire.read() == 0, i == length - 9);
            wire.flip(i);
        }
        DUE.equal("as it was", wire.read(), 0);
    }

    /** Reading the tape is no matter of the wire, nor of the tape. */
    private static void changesNothing() {
        for (int steps = 0; steps < 60; steps += 3) {
            SharedWire asked = Play.wanting(0, false, 5, 0xa5, 1);
            SharedWire other = Play.wanting(0, false, 5, 0xa5, 1);
            asked.tape(0);
            other.tape(0);
            Play.pass(asked, steps);
            Play.pass(other, steps);
            DUE.equal("read", asked.read(), 0);
            DUE.equal("the wire after " + steps, Play.wholeWire(asked), Play.wholeWire(other));
            asked.step(1, 0);
            other.step(1, 0);
            DUE.equal("later, after " + steps, Play.wholeWire(asked), Play.wholeWire(other));
            DUE.equal("the tape", Play.wholeTape(asked), Play.wholeTape(other));
        }
    }
}
