/** Promise 2. What a frame may be stands in FrameTest, which of them is offered in OfferTest. */
public final class WantTest {
    private static final Due DUE = new Due();

    public static void main(String[] args) {
        anyNode();
        refusesNoFrame();
        countsUpToFour();
        wrongFrameBeforeNoRoom();
        roomAgainWhenOneIsSent();
        noRoomWhileItFails();
        lowestBytesAlone();
        offNodeMayWant();
        wantingIsNotYetSending();
        DUE.end();
    }

    /** "NODES are 0 .. 3"; "IndexOutOfBoundsException: there is no such node" */
    private static void anyNode() {
        Twins twins = new Twins(DUE, () -> Play.wanting(0, false, 9, 0, 0));
        for (int node : new int[] {-1, 4, 5, Integer.MIN_VALUE, Integer.MAX_VALUE}) {
            twins.refuse("want of " + node, IndexOutOfBoundsException.class, w -> w.want(node, false, 1, 0, 0));
            twins.refuse("no frame of " + node, IndexOutOfBoundsException.class, w -> w.want(node, false, 2048, 0, 9));
        }
        for (int node = 0; node < 4; node++) {
            SharedWire wire = new SharedWire();
            DUE.equal("want of " + node, wire.want(node, false, 1, 0, 0), 1);
            for (int other = 0; other < 4; other++) {
                DUE.equal(other + " with one of " + node, wire.node(other, Play.WANTS), other == node ? 1 : 0);
            }
        }
    }

    /** "IllegalArgumentException when the identifier is not as said, or n is not 0 .. 8" */
    private static void refusesNoFrame() {
        Twins twins = new Twins(DUE, () -> withWanted(2, 1));
        int[][] wrong = {{0, -1, 0}, {0, 2048, 0}, {1, -1, 0}, {1, 1 << 29, 0}, {0, 0, -1}, {0, 2047, 9}, {1, 0, -1},
            {1, (1 << 29) - 1, 9}, {0, -1, -1}, {1, 1 << 29, 9}};
        for (int[] frame : wrong) {
            twins.refuse("long " + frame[0] + ", " + frame[1] + ", n " + frame[2], IllegalArgumentException.class,
                    w -> w.want(2, frame[0] == 1, frame[1], 0, frame[2]));
        }
        int[][] right = {{0, 0, 0}, {0, 2047, 8}, {1, 0, 8}, {1, (1 << 29) - 1, 0}};
        for (int[] frame : right) {
            DUE.equal("long " + frame[0] + ", " + frame[1] + ", n " + frame[2],
                    withWanted(2, 1).want(2, frame[0] == 1, frame[1], 0, frame[2]), 2);
        }
    }

    private static SharedWire withWanted(int node, int count) {
        SharedWire wire = new SharedWire();
        for (int i = 0; i < count; i++) {
            wire.want(node, i % 2 == 0, 1 + i, i, i);
        }
        return wire;
    }

    /**
     * "A node has at most 4 frames that it WANTS to send"; "A node wants to send one more frame: how many it
     * wants to."; "UnsupportedOperationException when there are 4"
     */
    private static void countsUpToFour() {
        for (int before = 0; before < 4; before++) {
            SharedWire wire = withWanted(2, before);
            DUE.equal("want behind " + before, wire.want(2, false, 1, 0, 1), before + 1);
            DUE.equal("wanted then", wire.node(2, Play.WANTS), before + 1);
        }
        Twins full = new Twins(DUE, () -> withWanted(2, 4));
        full.refuse("a fifth, better one", UnsupportedOperationException.class, w -> w.want(2, false, 0, 0, 0));
        full.refuse("a fifth, worse one", UnsupportedOperationException.class, w -> w.want(2, true, 1 << 28, -1, 8));
        SharedWire wire = withWanted(2, 4);
        DUE.equal("another node has room", wire.want(3, false, 1, 0, 0), 1);
    }

    /** "where several exceptions that a call names fit, it is the one that it names first" */
    private static void wrongFrameBeforeNoRoom() {
        Twins full = new Twins(DUE, () -> withWanted(0, 4));
        full.refuse("no node", IndexOutOfBoundsException.class, w -> w.want(4, false, -1, 0, 9));
        full.refuse("identifier, full", IllegalArgumentException.class, w -> w.want(0, false, 2048, 0, 0));
        full.refuse("number of bytes, full", IllegalArgumentException.class, w -> w.want(0, false, 1, 0, 9));
    }

    /** A frame that is sent makes room just when its last 1 has been seen, and its place is used again. */
    private static void roomAgainWhenOneIsSent() {
        SharedWire wire = withWanted(1, 4);
        int length = wire.tape(1);
        wire.step(length - 1, 0);
        DUE.refuses("before the last 1", UnsupportedOperationException.class, () -> wire.want(1, false, 7, 7, 1));
        wire.step(1, 0);
        DUE.equal("behind it", wire.want(1, false, 7, 7, 1), 4);
        DUE.refuses("full again", UnsupportedOperationException.class, () -> wire.want(1, false, 8, 8, 1));
        Play.pass(wire, 1000);
        DUE.equal("all are sent", Play.told(wire, 1), "1 0 0 0 5 0 0");
        DUE.equal("four anew", wire.want(1, false, 1, 0, 0) + wire.want(1, false, 2, 0, 0)
                + wire.want(1, false, 3, 0, 0) + wire.want(1, false, 4, 0, 0), 1 + 2 + 3 + 4);
        DUE.refuses("and no more", UnsupportedOperationException.class, () -> wire.want(1, false, 5, 0, 0));
    }

    private static void noRoomWhileItFails() {
        SharedWire wire = withWanted(1, 4);
        wire.step(1, 2);
        DUE.refuses("broken off", UnsupportedOperationException.class, () -> wire.want(1, false, 0, 0, 0));
        DUE.equal("still four", wire.node(1, Play.WANTS), 4);
    }

    /** "The data are the lowest n bytes of data, the lowest first (what is above does not matter)." */
    private static void lowestBytesAlone() {
        for (int n = 0; n <= 8; n++) {
            String none = laid(0, n);
            for (int shift = 8 * n; shift < 64; shift++) {
                DUE.equal(n + " bytes, bit " + shift + " above", laid(1L << shift, n), none);
            }
            if (n > 0) {
                DUE.equal(n + " bytes, their highest bit", laid(1L << 8 * n - 1, n).equals(none), false);
                DUE.equal(n + " bytes, their lowest bit", laid(1, n).equals(none), false);
            }
        }
        SharedWire wire = Play.wanting(0, false, 9, 0x8877665544332211L, 3);
        wire.step(wire.tape(0), 0);
        DUE.equal("three of eight", Play.frame(wire, 1), "9 0 3 " + 0x332211L);
        DUE.equal("in their order", laid(0x332211L, 3),
                Bits.onWire("0" + "00000001001" + "000" + "0011" + "000100010010001000110011", '1'));
    }

    private static String laid(long data, int n) {
        SharedWire wire = Play.wanting(0, false, 9, data, n);
        return Bits.tapeOf(wire, wire.tape(0));
    }

    /** "An OFF node may want, too.", and has the same limits */
    private static void offNodeMayWant() {
        SharedWire wire = Play.withNodeOff(1);
        DUE.equal("a second", wire.want(1, false, 2, 0, 0), 2);
        DUE.equal("a third", wire.want(1, false, 4, 0, 0), 3);
        DUE.equal("a fourth", wire.want(1, false, 4, 0, 0), 4);
        DUE.refuses("a fifth", UnsupportedOperationException.class, () -> wire.want(1, false, 2, 0, 0));
        DUE.refuses("no frame", IllegalArgumentException.class, () -> wire.want(1, false, 2048, 0, 0));
        DUE.equal("it does not send", wire.step(50, 0), 1);
        DUE.equal("the wire is at rest", wire.wire(), 0);
        DUE.equal("nor is it on", Play.told(wire, 1), "0 256 0 4 0 0 4");
        wire.join(1);
        Play.pass(wire, 400);
        DUE.equal("sent once it is on", Play.told(wire, 1), "1 0 0 0 4 0 4");
    }

    private static void wantingIsNotYetSending() {
        SharedWire wire = Play.wanting(0, false, 3, 0, 0);
        DUE.equal("rest", wire.wire(), 0);
        DUE.equal("neither", Play.told(wire, 0), "1 0 0 1 0 0 0");
        wire.step(1, 0);
        DUE.equal("sender", Play.told(wire, 0), "3 0 0 1 0 0 0");
    }
}
