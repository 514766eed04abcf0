/** The LEVEL, and a step at REST. */
public final class RestTest {
    private static final Due DUE = new Due();

    public static void main(String[] args) {
        levelIsZeroIfOneSendsZero();
        levelWithNoneOn();
        eachSeesTheLevelOrTheOther();
        whoBeginsToSend();
        senderSeesOne();
        oneOfTwoSendersSeesOne();
        whoBeginsToRead();
        restOrBusy();
        whoIsOffSeesNothing();
        DUE.end();
    }

    /** "the LEVEL is 0 if one sends 0, else 1" */
    private static void levelIsZeroIfOneSendsZero() {
        for (int wanting = 0; wanting <= 15; wanting++) {
            SharedWire wire = wantedBy(wanting);
            DUE.equal("begun by " + wanting, wire.step(1, 0), wanting == 0 ? 1 : 0);
        }
        SharedWire wire = Play.wanting(0, false, 0b11000000000, 0, 0);
        wire.want(1, false, 0b10100000000, 0, 0);
        DUE.equal("both 0, both 1, one 1", Play.levels(wire, 3), "010");
    }

    private static SharedWire wantedBy(int nodes) {
        SharedWire wire = new SharedWire();
        for (int node = 0; node < 4; node++) {
            if ((nodes >> node & 1) == 1) {
                wire.want(node, false, 3, 0, 0);
            }
        }
        return wire;
    }

    /** "(so with none on ...)" */
    private static void levelWithNoneOn() {
        SharedWire wire = wantedBy(15);
        for (int i = 0; i < 32; i++) {
            wire.step(18, 15);
        }
        for (int node = 0; node < 4; node++) {
            DUE.equal("off " + node, Play.told(wire, node), "0 256 0 1 0 0 4");
        }
        for (int disturbed = 0; disturbed <= 15; disturbed++) {
            DUE.equal("level, disturbed " + disturbed, wire.step(1, disturbed), 1);
            DUE.equal("rest, disturbed " + disturbed, wire.wire(), 0);
        }
        wire.join(3);
        DUE.equal("level with one on", wire.step(1, 0), 0);
    }

    /** "Each node SEES the level, or the other one, if it is DISTURBED in this step." */
    private static void eachSeesTheLevelOrTheOther() {
        for (int disturbed = 0; disturbed <= 15; disturbed++) {
            SharedWire low = wantedBy(1);
            SharedWire high = new SharedWire();
            low.step(1, disturbed & 14);
            high.step(1, disturbed & 14);
            for (int node = 1; node < 4; node++) {
                boolean isDisturbed = (disturbed >> node & 1) == 1;
                DUE.equal("0 for " + node + " of " + disturbed, low.node(node, Play.ROLE), isDisturbed ? 1 : 2);
                DUE.equal("1 for " + node + " of " + disturbed, high.node(node, Play.ROLE), isDisturbed ? 2 : 1);
            }
        }
        SharedWire next = new SharedWire();
        next.step(2, 2);
        next.step(1, 4);
        DUE.equal("in this step, not in the next", next.node(1, Play.ROLE) * 10 + next.node(2, Play.ROLE), 22);
    }

    /** "each node that is on and offers a frame sends that frame's first bit, 0, and is a SENDER; all others send 1" */
    private static void whoBeginsToSend() {
        SharedWire wire = Play.withNodeOff(1);
        wire.want(2, false, 9, 0, 0);
        wire.want(3, true, 9, 0, 0);
        DUE.equal("level", wire.step(1, 0), 0);
        DUE.equal("neither wants nor sends", wire.node(0, Play.ROLE), 2);
        DUE.equal("off, though it wants", wire.node(1, Play.ROLE), 0);
        DUE.equal("a short one", wire.node(2, Play.ROLE), 3);
        DUE.equal("a long one", wire.node(3, Play.ROLE), 3);
        SharedWire late = Play.wanting(2, false, 9, 0, 0);
        late.step(1, 0);
        late.want(3, false, 1, 0, 0);
        late.step(1, 0);
        DUE.equal("too late", late.node(3, Play.ROLE), 2);
    }

    /** "If a sender sees 1, that is fault 4 of it." */
    private static void senderSeesOne() {
        SharedWire sees0 = Play.wanting(1, false, 3, 0, 0);
        DUE.equal("level", sees0.step(1, 0), 0);
        DUE.equal("sees 0", Play.told(sees0, 1), "3 0 0 1 0 0 0");
        SharedWire sees1 = Play.wanting(1, false, 3, 0, 0);
        DUE.equal("level", sees1.step(1, 2), 0);
        DUE.equal("sees 1", Play.told(sees1, 1), "1 8 0 1 0 0 4");
        DUE.equal("broken", sees1.wire(), 2);
        DUE.equal("the others do not read on", Play.told(sees1, 0), "1 0 0 0 0 0 0");
    }

    private static void oneOfTwoSendersSeesOne() {
        SharedWire wire = wantedBy(3);
        wire.step(1, 2);
        DUE.equal("who saw 0", Play.told(wire, 0), "1 0 0 1 0 0 0");
        DUE.equal("who saw 1", Play.told(wire, 1), "1 8 0 1 0 0 4");
        DUE.equal("broken for both", wire.wire(), 2);
    }

    /** "A node that is on, no sender, and sees 0, is a reader who has read that." */
    private static void whoBeginsToRead() {
        SharedWire sent = Play.wanting(0, false, 0b11111011111, 0, 0);
        sent.step(1, 4);
        DUE.equal("sees the 0", sent.node(1, Play.ROLE), 2);
        DUE.equal("sees it as 1", sent.node(2, Play.ROLE), 1);
        sent.step(5, 0);
        DUE.equal("sees 1 1 1 1 1", sent.node(2, Play.ROLE), 1);
        SharedWire quiet = new SharedWire();
        quiet.step(1, 4);
        DUE.equal("sees the 1", quiet.node(1, Play.ROLE), 1);
        DUE.equal("sees it as 0", quiet.node(2, Play.ROLE), 2);
        hasReadThatBit();
        SharedWire off = Play.withNodeOff(2);
        off.step(1, 4);
        DUE.equal("off", off.node(2, Play.ROLE), 0);
    }

    /** With the first 0 counted, four more make five alike, and a sixth is a fault. */
    private static void hasReadThatBit() {
        SharedWire wire = new SharedWire();
        for (int i = 0; i < 5; i++) {
            wire.step(1, 2);
        }
        DUE.equal("five 0", Play.told(wire, 1), "2 0 0 0 0 0 0");
        wire.step(1, 2);
        DUE.equal("six 0", Play.told(wire, 1), "1 0 1 0 0 0 1");
    }

    /** "If no node sends and none sees 0, the wire is at rest still; else it is busy." */
    private static void restOrBusy() {
        becomes("no node sends, none sees 0", 0, 0, 0);
        becomes("no node sends, one sees 0", 0, 1, 1);
        becomes("no node sends, all see 0", 0, 15, 1);
        becomes("one sends, all see 0", 1, 0, 1);
        becomes("one sends, it alone sees 0", 1, 14, 1);
        becomes("all send", 15, 0, 1);
        becomes("one sends and sees 1", 1, 1, 2);
    }

    private static void becomes(String what, int wanting, int disturbed, int due) {
        SharedWire wire = wantedBy(wanting);
        DUE.equal(what + ", before", wire.wire(), 0);
        wire.step(1, disturbed);
        DUE.equal(what, wire.wire(), due);
        if (due == 0) {
            wire.step(200, 0);
            DUE.equal(what + ", 200 steps later", wire.wire(), 0);
        }
    }
    /**
     * "A node that is on, no sender, and sees 0, is a reader who has read that. If no node sends and none
     * sees 0, the wire is at rest still": one that is off is never asked, disturbed or not.
     */
    private static void whoIsOffSeesNothing() {
        for (int disturbed = 0; disturbed <= 15; disturbed++) {
            SharedWire wire = Play.withNodeOff(2);
            String what = "2 off, disturbed " + disturbed;
            DUE.equal(what + ", level", wire.step(1, disturbed), 1);
            DUE.equal(what + ", wire", wire.wire(), (disturbed & 11) == 0 ? 0 : 1);
            for (int node = 0; node < 4; node++) {
                int seen = (disturbed >> node & 1) == 1 ? 2 : 1;
                DUE.equal(what + ", role of " + node, wire.node(node, Play.ROLE), node == 2 ? 0 : seen);
            }
        }
    }
}
