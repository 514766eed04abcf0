import java.util.NoSuchElementException;

/** Promise 8. Frames written out in full stand in FrameTest. */
public final class TapeTest {
    private static final Due DUE = new Due();

    public static void main(String[] args) {
        refusesNoNode();
        refusesWhenItOffersNone();
        manyFrames();
        longestFrame();
        whateverItHad();
        onOrOff();
        changesNothingButTheTape();
        DUE.end();
    }

    /** Node 0 wants one, the others none, and the tape is full. */
    private static SharedWire withFullTape() {
        SharedWire wire = Play.wanting(0, false, 5, 0xa5, 1);
        for (int i = 0; i < 4; i++) {
            wire.put(0x2d5a5a5a5a5a5L, 50);
        }
        return wire;
    }

    private static void refusesNoNode() {
        Twins twins = new Twins(DUE, TapeTest::withFullTape);
        for (int node : new int[] {-1, 4, Integer.MIN_VALUE, Integer.MAX_VALUE}) {
            twins.refuse("tape(" + node + ")", IndexOutOfBoundsException.class, w -> w.tape(node));
        }
    }

    /** "NoSuchElementException when it offers none.": none ever, or none any more, up to the last 1 */
    private static void refusesWhenItOffersNone() {
        Twins twins = new Twins(DUE, TapeTest::withFullTape);
        for (int node = 1; node < 4; node++) {
            int asked = node;
            twins.refuse("tape(" + node + ")", NoSuchElementException.class, w -> w.tape(asked));
        }
        SharedWire wire = Play.wanting(0, false, 5, 0xa5, 1);
        int length = wire.tape(0);
        wire.step(length - 1, 0);
        DUE.equal("before the last 1", wire.tape(0), length);
        wire.step(1, 0);
        DUE.refuses("behind it", NoSuchElementException.class, () -> wire.tape(0));
        DUE.equal("the tape is as it was", wire.wipe(), length);
    }

    /** "the bits on the wire of the frame ... (1 for the answer): how many" */
    private static void manyFrames() {
        int[] high = {0, 1, 31, 63, 992, 1024, 1365, 2047};
        int[] low = {0, 1, 0x1f, 0x2aaaa, 0x3ffff};
        long[] data = {0, -1, 0x0123456789abcdefL, 0x1f1f1f1f1f1f1f1fL, 0xe0e0e0e0e0e0e0e0L};
        for (int n = 0; n <= 8; n++) {
            for (int h : high) {
                for (long d : data) {
                    frame(false, h, d, n);
                    for (int l : low) {
                        frame(true, h << 18 | l, d, n);
                    }
                }
            }
        }
    }

    private static void frame(boolean isLong, int identifier, long data, int n) {
        SharedWire wire = Play.wanting(1, isLong, identifier, data, n);
        String want = Bits.onWire(isLong, identifier, data, n);
        String what = "tape of " + (isLong ? "long " : "short ") + identifier + ", " + n + " bytes of " + data;
        int length = wire.tape(1);
        DUE.equal(what + ": length", length, want.length());
        DUE.equal(what, Bits.tapeOf(wire, length), want);
        DUE.equal(what + ": read()", wire.read(), 0);
        DUE.equal(what + ": wipe()", wire.wipe(), length);
    }

    /** As much as possible of it is stuffed: on the wire it has far more bits than its 118. */
    private static void longestFrame() {
        SharedWire wire = Play.wanting(0, true, 0, 0, 8);
        String due = Bits.onWire(true, 0, 0, 8);
        DUE.equal("length", wire.tape(0), due.length());
        DUE.equal("bits", Bits.tapeOf(wire, due.length()), due);
        wire.step(due.length(), 0);
        DUE.equal("received", Play.frame(wire, 1), "0 1 8 0");
    }

    /** "The tape (whatever it had) becomes ...": it had none, one bit, a longer frame, or 200 */
    private static void whateverItHad() {
        String due = Bits.onWire(false, 5, 0xa5, 1);
        for (int bits : new int[] {0, 1, 54, 55, 56, 157, 199, 200}) {
            SharedWire wire = Play.wanting(0, false, 5, 0xa5, 1);
            Bits.lay(wire, "0".repeat(bits));
            DUE.equal(bits + ": length", wire.tape(0), due.length());
            DUE.equal(bits + ": bits", Bits.tapeOf(wire, due.length()), due);
            DUE.refuses(bits + ": the first behind", IndexOutOfBoundsException.class, () -> wire.bit(due.length()));
            DUE.equal(bits + ": put behind", wire.put(0, 1), true);
            DUE.equal(bits + ": read", wire.read(), 5000 + due.length());
        }
    }

    /** "of the frame that a node, on or off, offers" */
    private static void onOrOff() {
        SharedWire wire = Play.withNodeOff(2);
        String due = Bits.onWire(false, 3, 0, 0);
        DUE.equal("off", wire.node(2, Play.ROLE) + ": " + Bits.tapeOf(wire, wire.tape(2)), "0: " + due);
        wire.join(2);
        DUE.equal("on", wire.node(2, Play.ROLE) + ": " + Bits.tapeOf(wire, wire.tape(2)), "1: " + due);
        wire.step(1, 0);
        DUE.equal("a sender", wire.node(2, Play.ROLE) + ": " + Bits.tapeOf(wire, wire.tape(2)), "3: " + due);
        SharedWire reader = Play.wanting(1, false, 5, 0, 0);
        reader.step(1, 0);
        reader.want(0, false, 3, 0, 0);
        DUE.equal("a reader", reader.node(0, Play.ROLE) + ": " + Bits.tapeOf(reader, reader.tape(0)), "2: " + due);
    }

    private static void changesNothingButTheTape() {
        for (int steps = 0; steps < 60; steps++) {
            SharedWire laid = Play.wanting(0, false, 5, 0xa5, 1);
            SharedWire other = Play.wanting(0, false, 5, 0xa5, 1);
            laid.want(1, false, 6, 0xa5, 1);
            other.want(1, false, 6, 0xa5, 1);
            Play.pass(laid, steps);
            Play.pass(other, steps);
            laid.tape(1);
            DUE.equal("after " + steps, Play.wholeWire(laid), Play.wholeWire(other));
            laid.step(70, 0);
            other.step(70, 0);
            DUE.equal("later, after " + steps, Play.wholeWire(laid), Play.wholeWire(other));
        }
    }
}
