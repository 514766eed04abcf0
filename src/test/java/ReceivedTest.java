import java.util.NoSuchElementException;

/** Promise 7, and what a reader may take for a frame. */
public final class ReceivedTest {
    private static final Due DUE = new Due();

    public static void main(String[] args) {
        refusesNoNode();
        refusesOtherWhat();
        refusesWhenItReceivedNone();
        eachWhat();
        keepsTheLast();
        zeroAboveItsBytes();
        longByThe13thBit();
        anythingFor000();
        numbersOfBytes();
        DUE.end();
    }

    /** Node 1 received a frame, node 0 none. */
    private static SharedWire withOne() {
        SharedWire wire = Play.wanting(0, true, 77, 0x4321, 2);
        wire.step(wire.tape(0), 0);
        return wire;
    }

    private static void refusesNoNode() {
        Twins twins = new Twins(DUE, ReceivedTest::withOne);
        for (int node : new int[] {-1, 4, Integer.MIN_VALUE, Integer.MAX_VALUE}) {
            for (int what = -1; what <= 4; what++) {
                int asked = what;
                twins.refuse("received(" + node + ", " + what + ")", IndexOutOfBoundsException.class,
                        w -> w.received(node, asked));
            }
        }
    }

    /** "IndexOutOfBoundsException also for another what", which it names before the other one */
    private static void refusesOtherWhat() {
        Twins twins = new Twins(DUE, ReceivedTest::withOne);
        for (int what : new int[] {-1, 4, 5, Integer.MIN_VALUE, Integer.MAX_VALUE}) {
            twins.refuse("with one, " + what, IndexOutOfBoundsException.class, w -> w.received(1, what));
            twins.refuse("with none, " + what, IndexOutOfBoundsException.class, w -> w.received(0, what));
        }
    }

    /** "NoSuchElementException when it received none." */
    private static void refusesWhenItReceivedNone() {
        Twins fresh = new Twins(DUE, SharedWire::new);
        Twins sender = new Twins(DUE, ReceivedTest::withOne);
        Twins reader = new Twins(DUE, ReceivedTest::beforeTheLastOne);
        for (int what = 0; what < 4; what++) {
            int asked = what;
            fresh.refuse("a new one, " + what, NoSuchElementException.class, w -> w.received(3, asked));
            sender.refuse("who sent one, " + what, NoSuchElementException.class, w -> w.received(0, asked));
            reader.refuse("before the last 1, " + what, NoSuchElementException.class, w -> w.received(1, asked));
        }
        SharedWire wire = beforeTheLastOne();
        wire.step(1, 0);
        DUE.equal("with the last 1", Play.frame(wire, 1), "77 1 2 " + 0x4321);
        SharedWire broken = beforeTheLastOne();
        broken.step(1, 4);
        DUE.refuses("broken off there", NoSuchElementException.class, () -> broken.received(1, 0));
    }

    private static SharedWire beforeTheLastOne() {
        SharedWire wire = Play.wanting(0, true, 77, 0x4321, 2);
        wire.step(wire.tape(0) - 1, 0);
        return wire;
    }

    /** "what = 0 its identifier, 1: 1 if it is long, else 0; 2 the number of its bytes, 3 its data as for want" */
    private static void eachWhat() {
        int[][] frames = {{0, 0}, {0, 2047}, {1, 0}, {1, 2047}, {1, 2048}, {1, 536870911}};
        for (int[] frame : frames) {
            for (int n = 0; n <= 8; n++) {
                SharedWire wire = Play.wanting(3, frame[0] == 1, frame[1], 0xfedcba9876543210L, n);
                wire.step(wire.tape(3), 0);
                long data = n == 8 ? 0xfedcba9876543210L : 0xfedcba9876543210L & (1L << 8 * n) - 1;
                DUE.equal("identifier", wire.received(0, 0), frame[1]);
                DUE.equal("long", wire.received(0, 1), frame[0]);
                DUE.equal("bytes", wire.received(0, 2), n);
                DUE.equal("data", wire.received(0, 3), data);
            }
        }
    }

    /** "The frame that a node received last" */
    private static void keepsTheLast() {
        SharedWire wire = Play.wanting(0, true, (1 << 29) - 1, -1, 8);
        wire.step(180, 0);
        wire.want(1, false, 2047, -1, 5);
        wire.step(180, 0);
        DUE.equal("the second", Play.frame(wire, 2), "2047 0 5 " + 0xffffffffffL);
        DUE.equal("who sent it has the first", Play.frame(wire, 1), "536870911 1 8 -1");
        wire.want(1, false, 0, -1, 0);
        wire.step(20, 0);
        DUE.equal("not before the third ends", Play.frame(wire, 2), "2047 0 5 " + 0xffffffffffL);
        wire.step(1, 2);
        wire.step(10, 0);
        DUE.equal("nor when it breaks", Play.frame(wire, 2), "2047 0 5 " + 0xffffffffffL);
        wire.step(180, 0);
        DUE.equal("then the third", Play.frame(wire, 2), "0 0 0 0");
        SharedWire off = Play.wanting(0, false, 9, 7, 1);
        off.step(off.tape(0) + 3, 0);
        off.want(1, false, 3, 0, 0);
        Play.failToSend(off, 1, 32);
        DUE.equal("who is off has it still", off.node(1, Play.ROLE) + ": " + Play.frame(off, 1), "0: 9 0 1 7");
    }

    /** "0 above its bytes" */
    private static void zeroAboveItsBytes() {
        SharedWire wire = new SharedWire();
        for (int n = 8; n >= 0; n--) {
            wire.want(0, false, 9, -1, n);
            wire.step(wire.tape(0) + 3, 0);
            DUE.equal(n + " bytes behind more", wire.received(1, 3), n == 0 ? 0 : -1L >>> 64 - 8 * n);
        }
    }

    private static void feeds(String what, String beforeCheck, String due) {
        SharedWire wire = new SharedWire();
        Play.feedFrame(wire, 5, Bits.onWire(beforeCheck, '1'));
        DUE.equal(what + ": received", wire.node(2, Play.RECEIVED), 1);
        if (wire.node(2, Play.RECEIVED) == 1) {
            DUE.equal(what, Play.frame(wire, 2), due);
        }
        DUE.equal(what + ": pause", wire.wire(), 3);
    }

    /** "the frame is long if the 13th bit behind the first one is 1 (the 12th ... may be anything ...)" */
    private static void longByThe13thBit() {
        String high = Bits.number(1234, 11);
        String low = Bits.number(98765, 18);
        long identifier = (1234L << 18) + 98765;
        feeds("short, 0 0", "0" + high + "000" + "0001" + "00010010", "1234 0 1 18");
        feeds("short, 1 0", "0" + high + "100" + "0001" + "00010010", "1234 0 1 18");
        feeds("long, 0 1", "0" + high + "01" + low + "000" + "0001" + "00010010", identifier + " 1 1 18");
        feeds("long, 1 1", "0" + high + "11" + low + "000" + "0001" + "00010010", identifier + " 1 1 18");
    }

    /** "(... and what stands for 0 0 0, may be anything, but the 13th)" */
    private static void anythingFor000() {
        String high = Bits.number(1234, 11);
        String low = Bits.number(98765, 18);
        for (int i = 0; i < 8; i++) {
            if ((i & 2) == 0) {
                feeds("short, " + i, "0" + high + Bits.number(i, 3) + "0001" + "00010010", "1234 0 1 18");
            }
            feeds("long, " + i, "0" + high + "11" + low + Bits.number(i, 3) + "0000", (1234L << 18) + 98765 + " 1 0 0");
        }
    }

    /** "a number of bytes above 8 counts as 8" */
    private static void numbersOfBytes() {
        long data = 0x8899aabbccddeeffL;
        for (int number = 0; number < 16; number++) {
            int n = Math.min(number, 8);
            long due = n == 8 ? data : data & (1L << 8 * n) - 1;
            for (int isLong = 0; isLong < 2; isLong++) {
                feeds("number " + number, Bits.head(isLong == 1, 77) + Bits.number(number, 4) + Bits.bytes(data, n),
                        "77 " + isLong + " " + n + " " + due);
            }
        }
    }
}
