import java.util.NoSuchElementException;

/** Promise 8. */
public final class TapeTest {
    private static final Due DUE = new Due();

    public static void main(String[] args) {
        refusesInOrder();
        writtenOut();
        manyFrames();
        replacesTheTape();
        offNodeOffers();
        senderOffersWhatItSends();
        DUE.end();
    }

    private static void refusesInOrder() {
        SharedWire wire = new SharedWire();
        wire.put(5, 3);
        DUE.refuses("tape(4)", IndexOutOfBoundsException.class, () -> wire.tape(4));
        DUE.refuses("tape(-1)", IndexOutOfBoundsException.class, () -> wire.tape(-1));
        DUE.refuses("tape(0)", NoSuchElementException.class, () -> wire.tape(0));
        DUE.equal("the tape is as it was", Bits.tapeOf(wire, 3), "101");
        DUE.equal("its length too", wire.wipe(), 3);
    }

    /** Frames whose bits stand here in full, so that nothing is taken from the tests' own maker of frames. */
    private static void writtenOut() {
        SharedWire wire = new SharedWire();
        wire.want(0, false, 0, 0, 0);
        DUE.equal("all 0", Bits.tapeOf(wire, wire.tape(0)),
                "00000" + "1" + "00000" + "1" + "00000" + "1" + "0000" + "0" + "1"
                        + "00000" + "1" + "00000" + "1" + "0000" + "1" + "1" + "1" + "1111111");
    }

    private static void manyFrames() {
        int[] high = {0, 1, 31, 63, 992, 1024, 1365, 2047};
        int[] low = {0, 1, 0x1f, 0x2aaaa, 0x3ffff};
        long[] data = {0, -1, 0x0123456789abcdefL, 0x1f1f1f1f1f1f1f1fL, 0xe0e0e0e0e0e0e0e0L};
        for (int n = 0; n <= 8; n++) {
            for (int h : high) {
                for (long d : data) {
                    frame(false, h, d, n);
                    for (int l : low) {
                        frame(true, h << 18 | l, d, n);
                    }
                }
            }
        }
    }

    private static void frame(boolean isLong, int identifier, long data, int n) {
        SharedWire wire = new SharedWire();
        wire.want(1, isLong, identifier, data, n);
        String want = Bits.onWire(isLong, identifier, data, n);
        String what = "tape of " + (isLong ? "long " : "short ") + identifier + ", " + n + " bytes of " + data;
        int length = wire.tape(1);
        DUE.equal(what + ": length", length, want.length());
        DUE.equal(what, Bits.tapeOf(wire, length), want);
        DUE.equal(what + ": read()", wire.read(), 0);
        DUE.equal(what + ": wipe()", wire.wipe(), length);
    }

    private static void replacesTheTape() {
        SharedWire wire = new SharedWire();
        for (int i = 0; i < 4; i++) {
            wire.put(-1, 50);
        }
        wire.want(0, false, 5, 0xa5, 1);
        DUE.equal("tape(0)", wire.tape(0), 55);
        DUE.refuses("bit(55)", IndexOutOfBoundsException.class, () -> wire.bit(55));
        DUE.equal("read()", wire.read(), 0);
        DUE.equal("the wire is as it was", wire.wire(), 0);
        DUE.equal("the node too", Play.told(wire, 0), "1 0 0 1 0 0 0");
    }

    private static void offNodeOffers() {
        SharedWire wire = Play.withNodeOff(2);
        DUE.equal("tape of an off node", Bits.tapeOf(wire, wire.tape(2)), Bits.onWire(false, 3, 0, 0));
    }

    private static void senderOffersWhatItSends() {
        SharedWire wire = new SharedWire();
        wire.want(0, false, 100, 0, 0);
        wire.step(2, 0);
        wire.want(0, false, 50, 0, 0);
        DUE.equal("while it is sent", Bits.tapeOf(wire, wire.tape(0)), Bits.onWire(false, 100, 0, 0));
        wire.step(60, 0);
        DUE.equal("the next one then", Bits.tapeOf(wire, wire.tape(0)), Bits.onWire(false, 50, 0, 0));
    }
}
