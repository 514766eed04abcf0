/** Promise 4. */
public final class JoinTest {
    private static final Due DUE = new Due();

    public static void main(String[] args) {
        refusesNoNode();
        falseWhenItWasOn();
        onAgainAtOnce();
        countsOfZero();
        countsAnewFromZero();
        joinsAtRest();
        joinsWhileBusy();
        joinsWhileBrokenOrInPause();
        wantsWhatItWanted();
        DUE.end();
    }

    /** "IndexOutOfBoundsException: there is no such node" */
    private static void refusesNoNode() {
        Twins twins = new Twins(DUE, () -> Play.withNodeOff(3));
        for (int node : new int[] {-1, 4, Integer.MIN_VALUE, Integer.MAX_VALUE}) {
            twins.refuse("join(" + node + ")", IndexOutOfBoundsException.class, w -> w.join(node) ? 1 : 0);
        }
        for (int node = 0; node < 4; node++) {
            DUE.equal("join(" + node + ")", Play.withNodeOff(node).join(node), true);
        }
    }

    /** "False when it was on.", as a new node, one with a count of 248, a sender and a reader */
    private static void falseWhenItWasOn() {
        for (int node = 0; node < 4; node++) {
            int asked = node;
            new Twins(DUE, SharedWire::new).answerFalse("new, " + node, w -> w.join(asked));
            new Twins(DUE, () -> counted(31)).answerFalse("248, " + node, w -> w.join(asked));
            new Twins(DUE, JoinTest::sending).answerFalse("busy, " + node, w -> w.join(asked));
        }
        DUE.equal("256", counted(32).join(0), true);
        SharedWire twice = counted(32);
        twice.join(0);
        DUE.equal("a second time", twice.join(0), false);
        DUE.equal("left as it was", Play.told(twice, 0), "1 0 0 1 0 0 4");
    }

    private static SharedWire counted(int faults) {
        SharedWire wire = Play.wanting(0, false, 3, 0, 0);
        Play.failToSend(wire, 0, faults);
        return wire;
    }

    private static SharedWire sending() {
        SharedWire wire = Play.wanting(0, false, 3, 0, 0);
        wire.step(20, 0);
        return wire;
    }

    /** "A node is on again ... (at once ...)" */
    private static void onAgainAtOnce() {
        SharedWire wire = Play.withNodeOff(2);
        DUE.equal("off", wire.node(2, Play.ROLE), 0);
        wire.join(2);
        DUE.equal("on", wire.node(2, Play.ROLE), 1);
        DUE.equal("sends in the next step", wire.step(1, 0), 0);
        DUE.equal("a sender", wire.node(2, Play.ROLE), 3);
        SharedWire two = Play.wanting(0, false, 3, 0, 0);
        two.want(1, false, 3, 0, 0);
        Play.failToSend(two, 0, 32);
        Play.failToSend(two, 1, 32);
        two.join(1);
        DUE.equal("the other is off still", two.node(0, Play.ROLE), 0);
    }

    /** "with counts of 0", the fault and the numbers of frames as they were */
    private static void countsOfZero() {
        SharedWire wire = new SharedWire();
        wire.step(24, 2);
        wire.step(24, 2);
        wire.want(0, false, 9, 0, 0);
        wire.step(70, 0);
        wire.want(1, false, 3, 0, 0);
        wire.want(1, false, 3, 0, 0);
        wire.step(wire.tape(1) + 3, 0);
        Play.failToSend(wire, 1, 32);
        DUE.equal("off with both counts", Play.told(wire, 1), "0 256 1 1 1 1 4");
        wire.join(1);
        DUE.equal("on with neither", Play.told(wire, 1), "1 0 0 1 1 1 4");
        DUE.equal("what it received", Play.frame(wire, 1), "9 0 0 0");
    }

    private static void countsAnewFromZero() {
        SharedWire wire = counted(32);
        wire.join(0);
        Play.failToSend(wire, 0, 31);
        DUE.equal("on with 248", Play.told(wire, 0), "1 248 0 1 0 0 4");
        Play.failToSend(wire, 0, 1);
        DUE.equal("off with 256", Play.told(wire, 0), "0 256 0 1 0 0 4");
        DUE.equal("join again", wire.join(0), true);
    }

    private static void joinsAtRest() {
        SharedWire wire = Play.withNodeOff(2);
        wire.want(1, false, 5, 0, 0);
        wire.step(100, 0);
        DUE.equal("off, whatever is sent", Play.told(wire, 2), "0 256 0 1 0 0 4");
        DUE.equal("join", wire.join(2), true);
        DUE.equal("the wire is as it was", wire.wire(), 0);
        wire.step(100, 0);
        DUE.equal("sent at last", Play.told(wire, 2), "1 0 0 0 1 0 4");
    }

    /** "as to the wire, it is neither sender nor reader", until it sees a 0 */
    private static void joinsWhileBusy() {
        SharedWire wire = Play.withNodeOff(3);
        wire.want(0, false, 0b10101010101, 0, 0);
        wire.step(3, 0);
        DUE.equal("join", wire.join(3), true);
        DUE.equal("neither", wire.node(3, Play.ROLE), 1);
        DUE.equal("busy", wire.wire(), 1);
        DUE.equal("a 1", wire.step(1, 0), 1);
        DUE.equal("neither still", wire.node(3, Play.ROLE), 1);
        DUE.equal("a 0", wire.step(1, 0), 0);
        DUE.equal("a reader", wire.node(3, Play.ROLE), 2);
    }

    private static void joinsWhileBrokenOrInPause() {
        for (int steps = 0; steps <= 17; steps++) {
            SharedWire wire = Play.wanting(0, false, 3, 0, 0);
            Play.failToSend(wire, 0, 31);
            wire.step(1, 1);
            Play.pass(wire, steps);
            int before = wire.wire();
            DUE.equal("join after " + steps, wire.join(0), true);
            DUE.equal("the wire after " + steps, wire.wire(), before);
            DUE.equal("neither after " + steps, Play.told(wire, 0), "1 0 0 1 0 0 4");
            Play.pass(wire, 17 - steps);
            DUE.equal("not before it is at rest", wire.node(0, Play.ROLE), 1);
            wire.step(1, 0);
            DUE.equal("then it begins", wire.node(0, Play.ROLE), 3);
        }
    }

    /** "it wants what it wanted" */
    private static void wantsWhatItWanted() {
        SharedWire wire = Play.withNodeOff(1);
        wire.want(1, true, 77, 0x4321, 2);
        wire.want(1, false, 3, 9, 1);
        wire.join(1);
        DUE.equal("three", wire.node(1, Play.WANTS), 3);
        String[] inTurn = {"77 1 2 " + 0x4321, "3 0 0 0", "3 0 1 9"};
        for (String due : inTurn) {
            wire.step(wire.tape(1) + 3, 0);
            DUE.equal("in turn", Play.frame(wire, 0), due);
        }
    }
}
