/** What several tests do with a wire. */
final class Play {
    static final int ROLE = 0;
    static final int SEND_COUNT = 1;
    static final int RECEIVE_COUNT = 2;
    static final int WANTS = 3;
    static final int SENT = 4;
    static final int RECEIVED = 5;
    static final int FAULT = 6;

    private Play() {
    }

    /** The levels of so many single steps without disturbance. */
    static String levels(SharedWire wire, int steps) {
        StringBuilder text = new StringBuilder();
        for (int i = 0; i < steps; i++) {
            text.append(wire.step(1, 0));
        }
        return text.toString();
    }

    /** All that node(node, what) tells, as one text. */
    static String told(SharedWire wire, int node) {
        StringBuilder text = new StringBuilder();
        for (int what = ROLE; what <= FAULT; what++) {
            text.append(what == ROLE ? "" : " ").append(wire.node(node, what));
        }
        return text.toString();
    }

    /** All that received(node, what) tells, as one text. */
    static String frame(SharedWire wire, int node) {
        StringBuilder text = new StringBuilder();
        for (int what = 0; what < 4; what++) {
            text.append(what == 0 ? "" : " ").append(wire.received(node, what));
        }
        return text.toString();
    }

    /** So often the node that wants to send sees its first bit wrong, and the wire comes to rest again. */
    static void failToSend(SharedWire wire, int node, int times) {
        for (int i = 0; i < times; i++) {
            wire.step(1, 1 << node);
            wire.step(17, 0);
        }
    }

    /** A wire at rest where the node is off and still wants frame 3 without data. */
    static SharedWire withNodeOff(int node) {
        SharedWire wire = new SharedWire();
        wire.want(node, false, 3, 0, 0);
        failToSend(wire, node, 32);
        return wire;
    }

    /** Lets the nodes of the mask, with nobody sending, see these bits; the others see 1 throughout. */
    static void feed(SharedWire wire, int mask, String bits, int answerAt) {
        for (int i = 0; i < bits.length(); i++) {
            int disturbed = bits.charAt(i) == '0' ? mask : 0;
            wire.step(1, i == answerAt ? 15 - mask : disturbed);
        }
    }

    /** A whole frame on the wire for these nodes, right if its check is. */
    static void feedFrame(SharedWire wire, int mask, String onWire) {
        feed(wire, mask, onWire, onWire.length() - 9);
    }
}
