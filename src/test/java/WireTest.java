/** Promise 5: "0 at rest, 1 busy, 2 broken, 3 in the pause (as it is for the next step)". */
public final class WireTest {
    private static final Due DUE = new Due();

    public static void main(String[] args) {
        goodFrame();
        brokenFrame();
        loneReader();
        nothingButStepsChangesIt();
        DUE.end();
    }

    private static String states(SharedWire wire, int steps) {
        StringBuilder text = new StringBuilder();
        for (int i = 0; i < steps; i++) {
            wire.step(1, 0);
            text.append(wire.wire());
        }
        return text.toString();
    }

    private static void goodFrame() {
        SharedWire wire = Play.wanting(0, false, 3, 0, 0);
        int length = wire.tape(0);
        DUE.equal("not before the step", wire.wire(), 0);
        DUE.equal("a frame, a pause", states(wire, length + 5), "1".repeat(length - 1) + "333" + "000");
    }

    private static void brokenFrame() {
        SharedWire wire = Play.wanting(0, false, 3, 0, 0);
        wire.step(5, 0);
        DUE.equal("busy", wire.wire(), 1);
        wire.step(1, 1);
        DUE.equal("broken", wire.wire(), 2);
        DUE.equal("and so on", states(wire, 18), "2".repeat(13) + "333" + "0" + "1");
    }

    private static void loneReader() {
        SharedWire wire = new SharedWire();
        wire.step(1, 8);
        DUE.equal("busy with one who saw 0", wire.wire(), 1);
        wire.want(0, false, 1, 0, 0);
        DUE.equal("to the fault and on", states(wire, 24), "11111" + "2".repeat(14) + "333" + "0" + "1");
    }

    private static void nothingButStepsChangesIt() {
        for (int steps = 0; steps < 40; steps++) {
            SharedWire wire = Play.wanting(0, false, 0b10101010101, 0, 0);
            Play.pass(wire, Math.min(steps, 15));
            if (steps > 15) {
                wire.step(steps - 15, 1);
            }
            int before = wire.wire();
            wire.want(1, false, 1, 0, 0);
            wire.join(1);
            wire.tape(0);
            wire.flip(3);
            wire.read();
            wire.wipe();
            DUE.equal("after " + steps, wire.wire(), before);
        }
    }
}
