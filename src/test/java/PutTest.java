/** Promise 9. */
public final class PutTest {
    private static final Due DUE = new Due();

    public static void main(String[] args) {
        comesBehindTheTape();
        lowestFirst();
        othersAreNotLookedAt();
        numbersFrom1To64();
        atMost200();
        everyLengthAtTheLimit();
        DUE.end();
    }

    private static SharedWire withBits(int bits) {
        SharedWire wire = new SharedWire();
        Bits.lay(wire, "01".repeat(100).substring(0, bits));
        return wire;
    }

    /** "n bits come behind the tape" */
    private static void comesBehindTheTape() {
        SharedWire wire = new SharedWire();
        DUE.equal("the first", wire.put(0b0110, 4), true);
        DUE.equal("one more", wire.put(1, 1), true);
        DUE.equal("and one", wire.put(0, 1), true);
        DUE.equal("tape", Play.wholeTape(wire), "011010" + " read 4006");
        wire.want(0, false, 5, 0xa5, 1);
        int length = wire.tape(0);
        wire.put(0b01, 2);
        DUE.equal("behind a frame", Bits.tapeOf(wire, length + 2), Bits.onWire(false, 5, 0xa5, 1) + "10");
    }

    /** "the lowest of w first" */
    private static void lowestFirst() {
        for (int i = 0; i < 64; i++) {
            SharedWire wire = new SharedWire();
            wire.put(1L << i, 64);
            DUE.equal("bit " + i, Bits.tapeOf(wire, 64), "0".repeat(i) + "1" + "0".repeat(63 - i));
        }
    }

    /** "(others are not looked at)" */
    private static void othersAreNotLookedAt() {
        for (int n = 1; n < 64; n++) {
            SharedWire zeros = new SharedWire();
            SharedWire ones = new SharedWire();
            zeros.put(-1L << n, n);
            ones.put(-1L >>> 64 - n, n);
            DUE.equal(n + " of 0", Bits.tapeOf(zeros, n), "0".repeat(n));
            DUE.equal(n + " of 1", Bits.tapeOf(ones, n), "1".repeat(n));
            DUE.equal(n + ", no more", zeros.wipe(), n);
        }
    }

    /** "False, changing nothing, when n is not 1 .. 64" */
    private static void numbersFrom1To64() {
        for (int before : new int[] {0, 1, 136, 200}) {
            Twins twins = new Twins(DUE, () -> withBits(before));
            for (int n : new int[] {0, -1, -64, 65, 66, Integer.MIN_VALUE, Integer.MAX_VALUE, Integer.MAX_VALUE - 199}) {
                twins.answerFalse(n + " behind " + before, w -> w.put(-1, n));
                twins.answerFalse(n + " of 0 behind " + before, w -> w.put(0, n));
            }
        }
        for (int n : new int[] {1, 2, 63, 64}) {
            SharedWire wire = new SharedWire();
            DUE.equal("put of " + n, wire.put(-1, n), true);
            DUE.equal("length " + n, wire.wipe(), n);
        }
    }

    /** "THE TAPE is a row of at most 200 bits."; "or there would be more than 200" */
    private static void atMost200() {
        for (int n : new int[] {1, 2, 8, 63, 64}) {
            for (int room = n; room <= n + 1; room++) {
                SharedWire wire = withBits(200 - room);
                DUE.equal(n + " into " + room, wire.put(-1, n), true);
                DUE.equal(n + " into " + room + ", the last", wire.bit(200 - room + n - 1), 1);
                DUE.equal(n + " into " + room + ", length", wire.wipe(), 200 - room + n);
            }
            int before = 200 - n + 1;
            new Twins(DUE, () -> withBits(before)).answerFalse(n + " into one less", w -> w.put(-1, n));
        }
        SharedWire refused = withBits(199);
        DUE.equal("two are too many", refused.put(3, 2), false);
        DUE.equal("one is not", refused.put(3, 1), true);
        DUE.equal("one more is", refused.put(3, 1), false);
        refused.wipe();
        DUE.equal("room again", refused.put(3, 64), true);
    }

    private static void everyLengthAtTheLimit() {
        for (int before = 136; before <= 200; before++) {
            for (int n = 1; n <= 64; n++) {
                SharedWire wire = withBits(before);
                DUE.equal(n + " behind " + before, wire.put(0, n), before + n <= 200);
                DUE.equal(n + " behind " + before + ", length", wire.wipe(), before + n <= 200 ? before + n : before);
            }
        }
    }
}
