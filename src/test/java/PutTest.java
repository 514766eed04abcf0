/** Promises 9 to 12: put, bit, flip, wipe. */
public final class PutTest {
    private static final Due DUE = new Due();

    public static void main(String[] args) {
        putsTheLowestFirst();
        refusesWrongNumbers();
        fillsUpTo200();
        bitsAndFlips();
        wipes();
        DUE.end();
    }

    private static void putsTheLowestFirst() {
        SharedWire wire = new SharedWire();
        DUE.equal("put(0b0110, 4)", wire.put(0b0110, 4), true);
        DUE.equal("put(-1, 1)", wire.put(-1, 1), true);
        DUE.equal("put(0xfe, 1)", wire.put(0xfe, 1), true);
        DUE.equal("tape", Bits.tapeOf(wire, 6), "011010");
        DUE.equal("put of 64", wire.put(Long.MIN_VALUE + 1, 64), true);
        DUE.equal("64 more", Bits.tapeOf(wire, 70).substring(6), "1" + "0".repeat(62) + "1");
    }

    private static void refusesWrongNumbers() {
        SharedWire wire = new SharedWire();
        wire.put(1, 2);
        int[] wrong = {0, -1, 65, Integer.MAX_VALUE, Integer.MIN_VALUE, Integer.MAX_VALUE - 1};
        for (int n : wrong) {
            DUE.equal("put(-1, " + n + ")", wire.put(-1, n), false);
        }
        DUE.equal("nothing changed", Bits.tapeOf(wire, 2), "10");
        DUE.equal("length", wire.wipe(), 2);
    }

    private static void fillsUpTo200() {
        SharedWire wire = new SharedWire();
        for (int i = 0; i < 3; i++) {
            wire.put(0, 64);
        }
        DUE.equal("201", wire.put(-1, 9), false);
        DUE.equal("200", wire.put(-1, 8), true);
        DUE.equal("one more", wire.put(1, 1), false);
        DUE.equal("last bit", wire.bit(199), 1);
        DUE.equal("bit 191", wire.bit(191), 0);
        DUE.refuses("bit(200)", IndexOutOfBoundsException.class, () -> wire.bit(200));
        DUE.equal("read()", wire.read(), 1005);
        DUE.equal("wipe()", wire.wipe(), 200);
    }

    private static void bitsAndFlips() {
        SharedWire wire = new SharedWire();
        wire.put(0b101, 3);
        wire.flip(0);
        wire.flip(1);
        DUE.equal("flipped", Bits.tapeOf(wire, 3), "011");
        wire.flip(1);
        wire.flip(2);
        DUE.equal("flipped again", Bits.tapeOf(wire, 3), "000");
        int[] wrong = {-1, 3, 199, 200, Integer.MAX_VALUE, Integer.MIN_VALUE};
        for (int i : wrong) {
            DUE.refuses("bit(" + i + ")", IndexOutOfBoundsException.class, () -> wire.bit(i));
            DUE.refuses("flip(" + i + ")", IndexOutOfBoundsException.class, () -> flip(wire, i));
        }
        DUE.equal("nothing changed", Bits.tapeOf(wire, 3), "000");
    }

    private static long flip(SharedWire wire, int i) {
        wire.flip(i);
        return 0;
    }

    private static void wipes() {
        SharedWire wire = new SharedWire();
        wire.put(-1, 7);
        DUE.equal("wipe()", wire.wipe(), 7);
        DUE.equal("wipe() again", wire.wipe(), 0);
        DUE.refuses("bit(0)", IndexOutOfBoundsException.class, () -> wire.bit(0));
        DUE.refuses("flip(0)", IndexOutOfBoundsException.class, () -> flip(wire, 0));
        wire.put(0, 2);
        DUE.equal("what comes then", Bits.tapeOf(wire, 2), "00");
    }
}
