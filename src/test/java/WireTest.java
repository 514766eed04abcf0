/** Promise 5. */
public final class WireTest {
    private static final Due DUE = new Due();

    public static void main(String[] args) {
        goodFrame();
        loneReader();
        noOneOn();
        readersGoOnBehindTheSender();
        DUE.end();
    }

    private static void goodFrame() {
        SharedWire wire = new SharedWire();
        wire.want(0, false, 3, 0, 0);
        int length = wire.tape(0);
        DUE.equal("not before the step", wire.wire(), 0);
        for (int i = 1; i < length; i++) {
            wire.step(1, 0);
            DUE.equal("after " + i, wire.wire(), 1);
        }
        StringBuilder states = new StringBuilder();
        for (int i = 0; i < 4; i++) {
            wire.step(1, 0);
            states.append(wire.wire());
        }
        DUE.equal("pause, then rest", states.toString(), "3330");
    }

    private static void loneReader() {
        SharedWire wire = new SharedWire();
        wire.step(1, 8);
        DUE.equal("busy with one who saw 0", wire.wire(), 1);
        wire.want(0, false, 1, 0, 0);
        wire.step(5, 0);
        DUE.equal("nobody sends while busy", wire.node(0, Play.ROLE), 1);
        wire.step(1, 0);
        DUE.equal("broken", wire.wire(), 2);
        wire.step(14, 0);
        DUE.equal("pause", wire.wire(), 3);
        wire.step(3, 0);
        DUE.equal("rest", wire.wire(), 0);
    }

    private static void noOneOn() {
        SharedWire wire = new SharedWire();
        for (int node = 0; node < 4; node++) {
            wire.want(node, false, 3, 0, 0);
        }
        for (int i = 0; i < 32; i++) {
            wire.step(1, 15);
            wire.step(17, 0);
        }
        DUE.equal("all off", wire.node(0, 0) + wire.node(1, 0) + wire.node(2, 0) + wire.node(3, 0), 0);
        DUE.equal("level", wire.step(1, 15), 1);
        DUE.equal("rest", wire.wire(), 0);
    }

    /** A reader that is behind keeps the wire busy; who has ended is neither, and may read anew. */
    private static void readersGoOnBehindTheSender() {
        SharedWire wire = new SharedWire();
        String frame = Bits.onWire(false, 0b10101010101, 0, 0);
        int answer = frame.length() - 9;
        String early = frame + "11";
        String late = "11" + frame;
        for (int i = 0; i < early.length(); i++) {
            char level = i == answer || i == answer + 2 ? '0' : '1';
            int disturbed = (early.charAt(i) != level ? 1 : 0) | (late.charAt(i) != level ? 2 : 0);
            wire.step(1, level == '0' ? disturbed | 12 : disturbed);
            if (i == frame.length() - 1) {
                DUE.equal("one has it", wire.node(0, Play.RECEIVED) * 10 + wire.node(0, Play.ROLE), 11);
                DUE.equal("the other reads", wire.node(1, Play.ROLE), 2);
                DUE.equal("busy still", wire.wire(), 1);
            }
        }
        DUE.equal("the other has it", wire.node(1, Play.RECEIVED), 1);
        DUE.equal("pause", wire.wire(), 3);
    }
}
