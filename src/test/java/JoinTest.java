/** Promise 4. */
public final class JoinTest {
    private static final Due DUE = new Due();

    public static void main(String[] args) {
        refusesNoNode();
        joinsAtRest();
        forgetsBothCounts();
        joinsWhileBusy();
        joinsWhileBroken();
        DUE.end();
    }

    private static void refusesNoNode() {
        SharedWire wire = new SharedWire();
        DUE.refuses("join(4)", IndexOutOfBoundsException.class, () -> wire.join(4) ? 1 : 0);
        DUE.refuses("join(-1)", IndexOutOfBoundsException.class, () -> wire.join(-1) ? 1 : 0);
        wire.want(0, false, 1, 0, 0);
        Play.failToSend(wire, 0, 31);
        DUE.equal("join of one that is on", wire.join(0), false);
        DUE.equal("leaves its counts", Play.told(wire, 0), "1 248 0 1 0 0 4");
    }

    private static void joinsAtRest() {
        SharedWire wire = Play.withNodeOff(2);
        wire.want(1, false, 5, 0, 0);
        wire.step(100, 0);
        DUE.equal("off", Play.told(wire, 2), "0 256 0 1 0 0 4");
        DUE.equal("join", wire.join(2), true);
        DUE.equal("on", Play.told(wire, 2), "1 0 0 1 0 0 4");
        DUE.equal("join again", wire.join(2), false);
        wire.step(100, 0);
        DUE.equal("sent at last", Play.told(wire, 2), "1 0 0 0 1 0 4");
    }

    private static void forgetsBothCounts() {
        SharedWire wire = new SharedWire();
        wire.step(1, 2);
        wire.step(23, 0);
        wire.want(1, false, 3, 0, 0);
        Play.failToSend(wire, 1, 32);
        DUE.equal("off with both counts", Play.told(wire, 1), "0 256 1 1 0 0 4");
        wire.join(1);
        DUE.equal("on with neither", Play.told(wire, 1), "1 0 0 1 0 0 4");
    }

    private static void joinsWhileBusy() {
        SharedWire wire = Play.withNodeOff(3);
        wire.want(0, false, 0b10101010101, 0, 0);
        wire.step(3, 0);
        DUE.equal("join", wire.join(3), true);
        DUE.equal("neither", wire.node(3, Play.ROLE), 1);
        DUE.equal("a 1", wire.step(1, 0), 1);
        DUE.equal("neither still", wire.node(3, Play.ROLE), 1);
        DUE.equal("a 0", wire.step(1, 0), 0);
        DUE.equal("a reader", wire.node(3, Play.ROLE), 2);
    }

    private static void joinsWhileBroken() {
        SharedWire broken = new SharedWire();
        broken.want(0, false, 3, 0, 0);
        Play.failToSend(broken, 0, 31);
        broken.step(1, 1);
        DUE.equal("off while broken", broken.node(0, Play.ROLE), 0);
        DUE.equal("join", broken.join(0), true);
        DUE.equal("wire", broken.wire(), 2);
        broken.step(17, 0);
        DUE.equal("it begins", broken.step(1, 0), 0);
        DUE.equal("a sender", broken.node(0, Play.ROLE), 3);
    }
}
