import java.util.NoSuchElementException;

/** What several tests do with a wire. */
final class Play {
    static final int ROLE = 0;
    static final int SEND_COUNT = 1;
    static final int RECEIVE_COUNT = 2;
    static final int WANTS = 3;
    static final int SENT = 4;
    static final int RECEIVED = 5;
    static final int FAULT = 6;

    private Play() {
    }

    /** The levels of so many single steps without disturbance. */
    static String levels(SharedWire wire, int steps) {
        StringBuilder text = new StringBuilder();
        for (int i = 0; i < steps; i++) {
            text.append(wire.step(1, 0));
        }
        return text.toString();
    }

    /** All that node(node, what) tells, as one text. */
    static String told(SharedWire wire, int node) {
        StringBuilder text = new StringBuilder();
        for (int what = ROLE; what <= FAULT; what++) {
            text.append(what == ROLE ? "" : " ").append(wire.node(node, what));
        }
        return text.toString();
    }

    /** All that can be asked about the wire and its nodes, as one text. */
    static String wholeWire(SharedWire wire) {
        StringBuilder text = new StringBuilder("wire " + wire.wire());
        for (int node = 0; node < 4; node++) {
            text.append(" | ").append(told(wire, node)).append(" / ").append(frameOrNone(wire, node));
        }
        return text.toString();
    }

    /** All bits of the tape, and what reading it answers. */
    static String wholeTape(SharedWire wire) {
        StringBuilder text = new StringBuilder();
        try {
            for (int i = 0; i <= 200; i++) {
                text.append(wire.bit(i));
            }
        } catch (IndexOutOfBoundsException behindTheLast) {
            text.append(" read ").append(wire.read());
        }
        return text.toString();
    }

    private static String frameOrNone(SharedWire wire, int node) {
        try {
            return frame(wire, node);
        } catch (NoSuchElementException none) {
            return "none";
        }
    }

    /** All that received(node, what) tells, as one text. */
    static String frame(SharedWire wire, int node) {
        StringBuilder text = new StringBuilder();
        for (int what = 0; what < 4; what++) {
            text.append(what == 0 ? "" : " ").append(wire.received(node, what));
        }
        return text.toString();
    }

    /** A wire where one node wants to send one frame. */
    static SharedWire wanting(int node, boolean isLong, int identifier, long data, int n) {
        SharedWire wire = new SharedWire();
        wire.want(node, isLong, identifier, data, n);
        return wire;
    }

    /** So many steps without disturbance, which may be none, or more than one call takes. */
    static void pass(SharedWire wire, int steps) {
        for (int left = steps; left > 0; left -= 200) {
            wire.step(Math.min(left, 200), 0);
        }
    }

    /** So often the node that wants to send sees its first bit wrong, and the wire comes to rest again. */
    static void failToSend(SharedWire wire, int node, int times) {
        for (int i = 0; i < times; i++) {
            wire.step(1, 1 << node);
            wire.step(17, 0);
        }
    }

    /** A wire at rest where the node is off and still wants frame 3 without data. */
    static SharedWire withNodeOff(int node) {
        SharedWire wire = new SharedWire();
        wire.want(node, false, 3, 0, 0);
        failToSend(wire, node, 32);
        return wire;
    }

    /** Lets the nodes of the mask, with nobody sending, see these bits; the others see 1 throughout. */
    static void feed(SharedWire wire, int mask, String bits, int answerAt) {
        for (int i = 0; i < bits.length(); i++) {
            int disturbed = bits.charAt(i) == '0' ? mask : 0;
            wire.step(1, i == answerAt ? 15 - mask : disturbed);
        }
    }

    /** A whole frame on the wire for these nodes, right if its check is. */
    static void feedFrame(SharedWire wire, int mask, String onWire) {
        feed(wire, mask, onWire, onWire.length() - 9);
    }
}
