import java.util.NoSuchElementException;

/** Promise 1. */
public final class NewObjectTest {
    public static void main(String[] args) {
        Due due = new Due();
        SharedWire wire = new SharedWire();
        due.equal("wire()", wire.wire(), 0);
        for (int node = 0; node < 4; node++) {
            int asked = node;
            due.equal("node " + node, Play.told(wire, node), "1 0 0 0 0 0 0");
            due.refuses("received(" + node + ", 0)", NoSuchElementException.class, () -> wire.received(asked, 0));
            due.refuses("tape(" + node + ")", NoSuchElementException.class, () -> wire.tape(asked));
            due.equal("join(" + node + ")", wire.join(node), false);
        }
        due.refuses("bit(0)", IndexOutOfBoundsException.class, () -> wire.bit(0));
        due.equal("wipe()", wire.wipe(), 0);
        due.equal("read()", wire.read(), 4000);
        due.equal("step(200, 0)", wire.step(200, 0), 1);
        due.equal("wire() after quiet steps", wire.wire(), 0);
        objectsAreApart(due);
        due.end();
    }

    private static void objectsAreApart(Due due) {
        SharedWire one = new SharedWire();
        SharedWire other = new SharedWire();
        one.want(0, false, 1, 1, 1);
        one.put(1, 1);
        one.step(1, 0);
        due.equal("wire() of the other", other.wire(), 0);
        due.equal("node 0 of the other", Play.told(other, 0), "1 0 0 0 0 0 0");
        due.equal("wipe() of the other", other.wipe(), 0);
    }
}
