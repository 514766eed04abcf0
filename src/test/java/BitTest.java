/** Promises 10 to 12: bit, flip, wipe. */
public final class BitTest {
    private static final Due DUE = new Due();
    private static final int[] LENGTHS = {0, 1, 2, 64, 199, 200};

    public static void main(String[] args) {
        bitsThereAre();
        bitsThereAreNot();
        flipsOneBit();
        flipsNoOther();
        wipesAll();
        wipedIsEmpty();
        DUE.end();
    }

    private static SharedWire withBits(int bits) {
        SharedWire wire = new SharedWire();
        Bits.lay(wire, text(bits));
        return wire;
    }

    private static String text(int bits) {
        return "011010011".repeat(23).substring(0, bits);
    }

    /** "Bit i of the tape.", from the first, which is 0, to the last */
    private static void bitsThereAre() {
        for (int length : LENGTHS) {
            DUE.equal(length + " bits", Bits.tapeOf(withBits(length), length), text(length));
        }
    }

    /** "IndexOutOfBoundsException: there is no such ... bit." */
    private static void bitsThereAreNot() {
        for (int length : LENGTHS) {
            Twins twins = new Twins(DUE, () -> withBits(length));
            for (int i : new int[] {-1, length, length + 1, 200, Integer.MIN_VALUE, Integer.MAX_VALUE}) {
                twins.refuse("bit(" + i + ") of " + length, IndexOutOfBoundsException.class, w -> w.bit(i));
                twins.refuse("flip(" + i + ") of " + length, IndexOutOfBoundsException.class, w -> {
                    w.flip(i);
                    return 0;
                });
            }
        }
    }

    /** "Bit i of the tape becomes the other one.": 1 from 0 and 0 from 1 */
    private static void flipsOneBit() {
        SharedWire wire = withBits(3);
        wire.flip(0);
        DUE.equal("0 to 1", Bits.tapeOf(wire, 3), "111");
        wire.flip(1);
        DUE.equal("1 to 0", Bits.tapeOf(wire, 3), "101");
        wire.flip(1);
        DUE.equal("and back", Bits.tapeOf(wire, 3), "111");
    }

    private static void flipsNoOther() {
        for (int i = 0; i < 200; i++) {
            SharedWire wire = withBits(200);
            wire.flip(i);
            DUE.equal("flip(" + i + ")", Bits.tapeOf(wire, 200), Bits.flipped(text(200), i));
            DUE.equal("length", wire.wipe(), 200);
        }
    }

    /** "The tape is empty: how many bits it had." */
    private static void wipesAll() {
        for (int length : LENGTHS) {
            SharedWire wire = withBits(length);
            DUE.equal("wipe() of " + length, wire.wipe(), length);
            DUE.equal("wipe() again", wire.wipe(), 0);
        }
    }

    private static void wipedIsEmpty() {
        SharedWire wire = withBits(200);
        wire.wipe();
        DUE.refuses("bit(0)", IndexOutOfBoundsException.class, () -> wire.bit(0));
        DUE.equal("read()", wire.read(), 4000);
        wire.put(0, 2);
        DUE.equal("what comes then", Play.wholeTape(wire), "00 read 4002");
        wire.want(0, false, 5, 0xa5, 1);
        DUE.equal("a frame", wire.tape(0), 55);
        DUE.equal("wiped", wire.wipe(), 55);
        DUE.equal("the frame is wanted still", Play.told(wire, 0), "1 0 0 1 0 0 0");
    }
}
