/** Promise 6. How the counts change stands in FaultTest and EndTest. */
public final class NodeTest {
    private static final Due DUE = new Due();

    public static void main(String[] args) {
        refusesNoNode();
        refusesOtherWhat();
        role();
        counts();
        numbersOfFrames();
        everyNodeForItself();
        lastFaultStays();
        faultsOfReaders();
        faultsOfSenders();
        DUE.end();
    }

    private static SharedWire sending() {
        SharedWire wire = Play.wanting(0, false, 3, 0, 0);
        wire.step(20, 0);
        return wire;
    }

    private static void refusesNoNode() {
        Twins twins = new Twins(DUE, NodeTest::sending);
        for (int node : new int[] {-1, 4, Integer.MIN_VALUE, Integer.MAX_VALUE}) {
            for (int what = -1; what <= 7; what++) {
                int asked = what;
                twins.refuse("node(" + node + ", " + what + ")", IndexOutOfBoundsException.class,
                        w -> w.node(node, asked));
            }
        }
    }

    /** "IndexOutOfBoundsException also for another what." */
    private static void refusesOtherWhat() {
        Twins twins = new Twins(DUE, NodeTest::sending);
        for (int what : new int[] {-1, 7, 8, Integer.MIN_VALUE, Integer.MAX_VALUE}) {
            for (int node = 0; node < 4; node++) {
                int asked = node;
                twins.refuse("node(" + node + ", " + what + ")", IndexOutOfBoundsException.class,
                        w -> w.node(asked, what));
            }
        }
        for (int node = 0; node < 4; node++) {
            DUE.equal("what 0 to 6 of " + node, Play.told(sending(), node), node == 0 ? "3 0 0 1 0 0 0" : "2 0 0 0 0 0 0");
        }
    }

    /** "0 it is off, 1 neither sender nor reader, 2 a reader, 3 a sender" */
    private static void role() {
        SharedWire wire = Play.withNodeOff(0);
        wire.want(1, false, 5, 0, 0);
        DUE.equal("off and neither", wire.node(0, 0) * 10 + wire.node(1, 0), 1);
        wire.step(1, 8);
        DUE.equal("off", wire.node(0, 0), 0);
        DUE.equal("sender", wire.node(1, 0), 3);
        DUE.equal("reader", wire.node(2, 0), 2);
        DUE.equal("neither", wire.node(3, 0), 1);
    }

    /** "1 its count of sending, 2 of receiving" */
    private static void counts() {
        SharedWire wire = new SharedWire();
        DUE.equal("neither", wire.node(1, 1) * 1000 + wire.node(1, 2), 0);
        wire.step(24, 2);
        DUE.equal("of receiving", wire.node(1, 1) * 1000 + wire.node(1, 2), 1);
        wire.want(1, false, 3, 0, 0);
        wire.step(1, 2);
        DUE.equal("and of sending", wire.node(1, 1) * 1000 + wire.node(1, 2), 8001);
    }

    /** "3 how many frames it wants to send, 4 how many it sent, 5 how many it received" */
    private static void numbersOfFrames() {
        SharedWire wire = Play.wanting(0, false, 3, 0, 0);
        wire.want(0, false, 3, 0, 0);
        wire.want(1, false, 4, 0, 0);
        wire.step(wire.tape(0) + 3, 0);
        DUE.equal("0 after one", Play.told(wire, 0), "1 0 0 1 1 0 0");
        DUE.equal("1 after one", Play.told(wire, 1), "1 0 0 1 0 1 0");
        wire.step(wire.tape(0) + 3, 0);
        wire.step(wire.tape(1) + 3, 0);
        DUE.equal("0 after all", Play.told(wire, 0), "1 0 0 0 2 1 0");
        DUE.equal("1 after all", Play.told(wire, 1), "1 0 0 0 1 2 0");
        DUE.equal("2 after all", Play.told(wire, 2), "1 0 0 0 0 3 0");
    }

    private static void everyNodeForItself() {
        for (int node = 0; node < 4; node++) {
            SharedWire wire = Play.wanting(node, false, 3, 0, 0);
            wire.step(1, 1 << node);
            for (int other = 0; other < 4; other++) {
                DUE.equal(node + " failed, " + other, Play.told(wire, other),
                        other == node ? "1 8 0 1 0 0 4" : "1 0 0 0 0 0 0");
            }
        }
    }

    /** "6 the last fault that it found (0 for none ever; frames that go well, and join(), leave it)" */
    private static void lastFaultStays() {
        SharedWire wire = Play.wanting(0, false, 3, 0, 0);
        DUE.equal("none ever", wire.node(0, Play.FAULT), 0);
        wire.step(wire.tape(0) + 3, 0);
        DUE.equal("none with a good frame", wire.node(0, Play.FAULT), 0);
        wire.step(24, 1);
        DUE.equal("fault 1 as a reader", wire.node(0, Play.FAULT), 1);
        wire.want(1, false, 3, 0, 0);
        wire.step(wire.tape(1) + 3, 0);
        DUE.equal("a frame received leaves it", Play.told(wire, 0), "1 0 0 0 1 1 1");
        wire.want(0, false, 3, 0, 0);
        wire.step(wire.tape(0) + 3, 0);
        DUE.equal("a frame sent leaves it", Play.told(wire, 0), "1 0 0 0 2 1 1");
        wire.want(1, false, 3, 0, 0);
        wire.step(1, 2);
        DUE.equal("another's fault leaves it", Play.told(wire, 0), "1 0 0 0 2 1 1");
        wire.step(17, 0);
        Play.pass(wire, wire.tape(1) + 3);
        wire.want(0, false, 3, 0, 0);
        Play.failToSend(wire, 0, 32);
        DUE.equal("fault 4 as a sender", Play.told(wire, 0), "0 256 0 1 2 2 4");
        wire.join(0);
        DUE.equal("join leaves it", wire.node(0, Play.FAULT), 4);
        wire.step(wire.tape(0) - 9, 0);
        wire.step(1, 1);
        DUE.equal("fault 5 behind it", wire.node(0, Play.FAULT), 5);
    }

    /**
     * "it reads what it sees, and may find a fault": fed by disturbance, one reader finds each of its faults,
     * and just at the bit where it is.
     */
    private static void faultsOfReaders() {
        String bits = Bits.onWire(false, 0b10101010101, 0x33, 1);
        int end = bits.length() - 8;
        fed("wrong delimiter", Bits.flipped(bits, end - 2), end - 2, 3);
        fed("wrong end of the answer", Bits.flipped(bits, end), end, 3);
        for (int i = 1; i <= 7; i++) {
            fed("wrong one of seven, " + i, Bits.flipped(bits, end + i), end + i, 3);
        }
        String beforeCheck = Bits.head(false, 0b10101010101) + Bits.number(1, 4) + Bits.bytes(0x33, 1);
        String otherCheck = Bits.flipped(Bits.check(beforeCheck), 14);
        String all = Bits.stuffed(beforeCheck + otherCheck) + "1" + "1" + "1" + "1111111";
        fed("wrong check, end 1", all, all.length() - 8, 2);
        fed("wrong check, end 0", Bits.flipped(all, all.length() - 8), all.length() - 8, 2);
        fed("wrong check, wrong delimiter", Bits.flipped(all, all.length() - 10), all.length() - 10, 3);
        fed("stuffed in right, behind 1", "0" + "11111" + "0", 6, 0);
        fed("stuffed in wrong, behind 1", "0" + "11111" + "1", 6, 1);
        fed("stuffed in right, behind 0", "00000" + "1", 5, 0);
        fed("stuffed in wrong, behind 0", "00000" + "0", 5, 1);
        fed("four behind one stuffed in", "0" + "11111" + "0" + "0000", 10, 0);
        fed("a fifth behind it", "0" + "11111" + "0" + "0000" + "0", 11, 1);
    }

    private static void fed(String what, String bits, int faultAt, int fault) {
        SharedWire wire = new SharedWire();
        int answer = bits.length() > 40 ? bits.length() - 9 : -1;
        Play.feed(wire, 2, bits.substring(0, faultAt), answer);
        DUE.equal(what + ": none before", Play.told(wire, 1), "2 0 0 0 0 0 0");
        wire.step(1, bits.charAt(faultAt) == '0' ? 2 : 0);
        DUE.equal(what, Play.told(wire, 1), fault == 0 ? "2 0 0 0 0 0 0" : "1 0 1 0 0 0 " + fault);
        DUE.equal(what + ": wire", wire.wire(), fault == 0 ? 1 : 2);
    }

    private static void faultsOfSenders() {
        SharedWire level = Play.wanting(2, false, 3, 0, 0);
        level.step(1, 4);
        DUE.equal("another level", level.node(2, Play.FAULT), 4);
        SharedWire answer = Play.wanting(2, false, 3, 0, 0);
        answer.step(answer.tape(2) - 9, 0);
        answer.step(1, 4);
        DUE.equal("no answer", answer.node(2, Play.FAULT), 5);
    }
}
