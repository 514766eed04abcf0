import java.util.NoSuchElementException;

/** Promise 1: "At rest; all nodes are on; the tape is empty." */
public final class NewObjectTest {
    private static final Due DUE = new Due();

    public static void main(String[] args) {
        atRest();
        allNodesAreOn();
        nothingWantedOrReceived();
        tapeIsEmpty();
        objectsAreApart();
        DUE.end();
    }

    /** "THE WIRE is REST (at first)" */
    private static void atRest() {
        SharedWire wire = new SharedWire();
        DUE.equal("wire()", wire.wire(), 0);
        DUE.equal("step(200, 0)", wire.step(200, 0), 1);
        DUE.equal("wire() after quiet steps", wire.wire(), 0);
        SharedWire begins = new SharedWire();
        begins.want(0, false, 0, 0, 0);
        DUE.equal("a frame begins with the first step", begins.step(1, 0), 0);
    }

    /** "A node is ON (at first)"; "It has two COUNTS, of SENDING and RECEIVING, 0 at first." */
    private static void allNodesAreOn() {
        SharedWire wire = new SharedWire();
        for (int node = 0; node < 4; node++) {
            DUE.equal("node " + node, Play.told(wire, node), "1 0 0 0 0 0 0");
            DUE.equal("join(" + node + ")", wire.join(node), false);
        }
    }

    private static void nothingWantedOrReceived() {
        for (int node = 0; node < 4; node++) {
            int asked = node;
            Twins twins = new Twins(DUE, SharedWire::new);
            twins.refuse("received(" + node + ", 0)", NoSuchElementException.class, w -> w.received(asked, 0));
            twins.refuse("tape(" + node + ")", NoSuchElementException.class, w -> w.tape(asked));
        }
    }

    private static void tapeIsEmpty() {
        SharedWire wire = new SharedWire();
        DUE.refuses("bit(0)", IndexOutOfBoundsException.class, () -> wire.bit(0));
        DUE.equal("read()", wire.read(), 4000);
        DUE.equal("wipe()", wire.wipe(), 0);
    }

    private static void objectsAreApart() {
        SharedWire one = new SharedWire();
        SharedWire other = new SharedWire();
        one.want(0, false, 1, 1, 1);
        one.put(1, 1);
        one.step(1, 0);
        DUE.equal("the other wire", Play.wholeWire(other), Play.wholeWire(new SharedWire()));
        DUE.equal("the other tape", Play.wholeTape(other), " read 4000");
    }
}
