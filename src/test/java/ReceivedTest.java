import java.util.NoSuchElementException;

/** Promise 7. */
public final class ReceivedTest {
    private static final Due DUE = new Due();

    public static void main(String[] args) {
        refusesInOrder();
        keepsTheLast();
        takesAnythingWhereItMay();
        numberAboveEight();
        DUE.end();
    }

    private static void refusesInOrder() {
        SharedWire wire = new SharedWire();
        int[][] wrong = {{4, 0}, {-1, 0}, {0, 4}, {0, -1}, {4, 4}};
        for (int[] w : wrong) {
            DUE.refuses("received(" + w[0] + ", " + w[1] + ")", IndexOutOfBoundsException.class,
                    () -> wire.received(w[0], w[1]));
        }
        DUE.refuses("received(0, 3)", NoSuchElementException.class, () -> wire.received(0, 3));
        wire.want(0, false, 3, 0, 0);
        wire.step(200, 0);
        DUE.refuses("a sender received none", NoSuchElementException.class, () -> wire.received(0, 0));
        DUE.refuses("received(1, 4)", IndexOutOfBoundsException.class, () -> wire.received(1, 4));
    }

    private static void keepsTheLast() {
        SharedWire wire = new SharedWire();
        wire.want(0, true, (1 << 29) - 1, 0xfedcba9876543210L, 8);
        wire.step(180, 0);
        DUE.equal("long, 8 bytes", Play.frame(wire, 2), "536870911 1 8 " + 0xfedcba9876543210L);
        wire.want(1, false, 2047, -1, 5);
        wire.step(180, 0);
        DUE.equal("short, 0 above its 5 bytes", Play.frame(wire, 2), "2047 0 5 " + 0xffffffffffL);
        wire.want(1, false, 0, -1, 0);
        wire.step(20, 0);
        DUE.equal("not before it ends", Play.frame(wire, 2), "2047 0 5 " + 0xffffffffffL);
        wire.step(1, 2);
        wire.step(10, 0);
        DUE.equal("nor when it breaks", Play.frame(wire, 2), "2047 0 5 " + 0xffffffffffL);
        wire.step(180, 0);
        DUE.equal("no bytes", Play.frame(wire, 2), "0 0 0 0");
        DUE.equal("who sends does not receive", Play.frame(wire, 1), "536870911 1 8 " + 0xfedcba9876543210L);
    }

    private static void takesAnythingWhereItMay() {
        feeds("short, 12th and 14th bit 1", "0" + Bits.number(1234, 11) + "101" + "0001" + "00010010", "1234 0 1 18");
        String high = Bits.number(1234, 11);
        String low = Bits.number(98765, 18);
        long identifier = (1234L << 18) + 98765;
        feeds("long, 12th bit 0", "0" + high + "01" + low + "000" + "0001" + "00010010", identifier + " 1 1 18");
        feeds("long, 1 for 0 0 0", "0" + high + "11" + low + "111" + "0000", identifier + " 1 0 0");
    }

    private static void numberAboveEight() {
        for (int number = 9; number < 16; number++) {
            String head = Bits.head(number % 2 == 0, 77) + Bits.number(number, 4);
            feeds("number " + number, head + Bits.bytes(0x8899aabbccddeeffL, 8),
                    "77 " + (1 - number % 2) + " 8 " + 0x8899aabbccddeeffL);
        }
    }

    private static void feeds(String what, String beforeCheck, String due) {
        SharedWire wire = new SharedWire();
        Play.feedFrame(wire, 5, Bits.onWire(beforeCheck, '1'));
        DUE.equal(what + ": frames", wire.node(2, Play.RECEIVED), 1);
        if (wire.node(2, Play.RECEIVED) == 1) {
            DUE.equal(what, Play.frame(wire, 2), due);
        }
        DUE.equal(what + ": pause", wire.wire(), 3);
    }
}
