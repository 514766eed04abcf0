import java.util.NoSuchElementException;
import java.util.function.Supplier;

/**
 * "A call that throws changes nothing; where several exceptions that a call names fit, it is the
 * one that it names first." Each refused call is made in each of several states of the wire.
 */
public final class RefusedTest {
    private static final Due DUE = new Due();
    private static final Class<IndexOutOfBoundsException> NO_SUCH = IndexOutOfBoundsException.class;
    private static final Class<IllegalArgumentException> WRONG = IllegalArgumentException.class;
    private static final Class<UnsupportedOperationException> FULL = UnsupportedOperationException.class;
    private static final Class<NoSuchElementException> NONE_YET = NoSuchElementException.class;
    private static final int[] NO_NODES = {-1, 4, Integer.MIN_VALUE, Integer.MAX_VALUE};
    private static final int TAPE_BITS = 150;

    private record State(String name, int wire, Supplier<SharedWire> maker) {
    }

    /** In each, node 3 wants four frames, node 2 wants and received none, and the tape has 150 bits. */
    private static final State[] STATES = {
        new State("at rest", 0, () -> wanting()),
        new State("first bit", 1, () -> after(1)),
        new State("one lost", 1, () -> after(14)),
        new State("before the answer", 1, () -> after(46)),
        new State("before the last 1", 1, () -> after(54)),
        new State("just broken", 2, () -> afterFault(0)),
        new State("broken", 2, () -> afterFault(7)),
        new State("last step of it", 2, () -> afterFault(13)),
        new State("pause", 3, () -> afterFault(15)),
        new State("one off", 0, () -> withOneOff())};

    public static void main(String[] args) {
        for (State state : STATES) {
            Supplier<SharedWire> maker = () -> laid(state.maker().get());
            DUE.equal(state.name(), maker.get().wire(), state.wire());
            Twins twins = new Twins(DUE, maker);
            String in = state.name() + ": ";
            noSuchNode(in, twins);
            noSuchFrame(in, twins);
            noRoomForFrame(in, twins);
            noSuchSteps(in, twins);
            noSuchWhat(in, twins);
            noneYet(in, twins);
            noSuchBit(in, twins);
            notPut(in, twins);
            notJoined(in, twins);
        }
        DUE.end();
    }

    /** Node 0 sends 55 bits, the answer being bit 46; node 3 loses against it. */
    private static SharedWire wanting() {
        SharedWire wire = Play.wanting(0, false, 5, 0xa5, 1);
        for (int i = 0; i < 4; i++) {
            wire.want(3, i % 2 == 0, i % 2 == 0 ? 1000 + i << 18 : 1000 + i, i, i);
        }
        return wire;
    }

    private static SharedWire after(int steps) {
        SharedWire wire = wanting();
        wire.step(steps, 0);
        return wire;
    }

    private static SharedWire afterFault(int stepsMore) {
        SharedWire wire = after(14);
        wire.step(1 + stepsMore, 1);
        return wire;
    }

    private static SharedWire withOneOff() {
        SharedWire wire = wanting();
        Play.failToSend(wire, 3, 32);
        return wire;
    }

    private static SharedWire laid(SharedWire wire) {
        for (int i = 0; i < 3; i++) {
            wire.put(0x2d5a5a5a5a5a5L, TAPE_BITS / 3);
        }
        return wire;
    }

    private static void noSuchNode(String in, Twins twins) {
        for (int node : NO_NODES) {
            twins.refuse(in + "want of node " + node, NO_SUCH, w -> w.want(node, false, 1, 1, 1));
            twins.refuse(in + "want of node " + node + " and no frame", NO_SUCH, w -> w.want(node, false, -1, 1, 9));
            twins.refuse(in + "join of node " + node, NO_SUCH, w -> w.join(node) ? 1 : 0);
            twins.refuse(in + "node " + node, NO_SUCH, w -> w.node(node, 0));
            twins.refuse(in + "received of node " + node, NO_SUCH, w -> w.received(node, 0));
            twins.refuse(in + "tape of node " + node, NO_SUCH, w -> w.tape(node));
        }
    }

    private static void noSuchFrame(String in, Twins twins) {
        int[][] wrong = {{0, -1, 0}, {0, 2048, 0}, {1, -1, 0}, {1, 1 << 29, 0}, {0, 0, -1}, {0, 0, 9}, {1, 0, -1},
            {1, 0, 9}, {0, 2048, 9}};
        for (int[] frame : wrong) {
            boolean isLong = frame[0] == 1;
            String what = in + "want long " + isLong + ", " + frame[1] + ", n " + frame[2];
            twins.refuse(what, WRONG, w -> w.want(0, isLong, frame[1], 0, frame[2]));
            twins.refuse(what + ", no room either", WRONG, w -> w.want(3, isLong, frame[1], 0, frame[2]));
        }
    }

    private static void noRoomForFrame(String in, Twins twins) {
        twins.refuse(in + "a fifth short one", FULL, w -> w.want(3, false, 0, 0, 0));
        twins.refuse(in + "a fifth long one", FULL, w -> w.want(3, true, (1 << 29) - 1, -1, 8));
    }

    private static void noSuchSteps(String in, Twins twins) {
        int[][] wrong = {{0, 0}, {-1, 0}, {201, 0}, {1, -1}, {1, 16}, {200, 16}, {0, 16}, {201, -1},
            {Integer.MIN_VALUE, 0}, {Integer.MAX_VALUE, 0}, {1, Integer.MIN_VALUE}, {1, Integer.MAX_VALUE}};
        for (int[] step : wrong) {
            twins.refuse(in + "step(" + step[0] + ", " + step[1] + ")", WRONG, w -> w.step(step[0], step[1]));
        }
    }

    private static void noSuchWhat(String in, Twins twins) {
        for (int what : new int[] {-1, 7, Integer.MIN_VALUE, Integer.MAX_VALUE}) {
            twins.refuse(in + "node(0, " + what + ")", NO_SUCH, w -> w.node(0, what));
        }
        for (int what : new int[] {-1, 4, Integer.MIN_VALUE, Integer.MAX_VALUE}) {
            twins.refuse(in + "received(2, " + what + ") with none", NO_SUCH, w -> w.received(2, what));
        }
    }

    private static void noneYet(String in, Twins twins) {
        for (int what = 0; what < 4; what++) {
            int asked = what;
            twins.refuse(in + "received(2, " + what + ")", NONE_YET, w -> w.received(2, asked));
        }
        twins.refuse(in + "tape(2)", NONE_YET, w -> w.tape(2));
    }

    private static void noSuchBit(String in, Twins twins) {
        for (int i : new int[] {-1, TAPE_BITS, TAPE_BITS + 1, 199, 200, Integer.MIN_VALUE, Integer.MAX_VALUE}) {
            twins.refuse(in + "bit(" + i + ")", NO_SUCH, w -> w.bit(i));
            twins.refuse(in + "flip(" + i + ")", NO_SUCH, w -> {
                w.flip(i);
                return 0;
            });
        }
    }

    private static void notPut(String in, Twins twins) {
        for (int n : new int[] {-1, 0, 65, Integer.MIN_VALUE, Integer.MAX_VALUE, 51, 64}) {
            twins.answerFalse(in + "put of " + n, w -> w.put(-1, n));
        }
    }

    private static void notJoined(String in, Twins twins) {
        for (int node = 0; node < 3; node++) {
            int asked = node;
            twins.answerFalse(in + "join of " + node + ", which is on", w -> w.join(asked));
        }
    }
}
