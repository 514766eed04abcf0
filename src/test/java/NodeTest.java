/** Promise 6. */
public final class NodeTest {
    private static final Due DUE = new Due();

    public static void main(String[] args) {
        refusesWrongArguments();
        countsGoDownWithGoodFrames();
        offAbove255();
        onWith255();
        faultsOfReaders();
        DUE.end();
    }

    private static void refusesWrongArguments() {
        SharedWire wire = new SharedWire();
        int[][] wrong = {{4, 0}, {-1, 0}, {0, 7}, {0, -1}, {4, 7}, {Integer.MAX_VALUE, 0}, {0, Integer.MIN_VALUE}};
        for (int[] w : wrong) {
            DUE.refuses("node(" + w[0] + ", " + w[1] + ")", IndexOutOfBoundsException.class,
                    () -> wire.node(w[0], w[1]));
        }
    }

    private static void countsGoDownWithGoodFrames() {
        SharedWire wire = new SharedWire();
        wire.want(0, false, 3, 0, 0);
        wire.want(0, false, 3, 0, 0);
        int length = wire.tape(0);
        Play.failToSend(wire, 0, 2);
        wire.step(3, 0);
        wire.step(1, 2);
        DUE.equal("a reader saw it", Play.told(wire, 1), "2 0 0 0 0 0 0");
        wire.step(200, 0);
        DUE.equal("sent", wire.node(0, Play.SENT), 2);
        DUE.equal("two less", wire.node(0, Play.SEND_COUNT), 14);
        DUE.equal("fault of a good sender stays", wire.node(0, Play.FAULT), 4);
        DUE.equal("wants none", wire.node(0, Play.WANTS), 0);
        DUE.equal("never below 0", wire.node(3, Play.RECEIVE_COUNT), 0);
        DUE.equal("received", wire.node(3, Play.RECEIVED), 2);
        DUE.equal("frame length", length, Bits.onWire(false, 3, 0, 0).length());
        countOfReceivingGoesDown();
    }

    private static void countOfReceivingGoesDown() {
        SharedWire wire = new SharedWire();
        for (int i = 0; i < 3; i++) {
            wire.step(1, 2);
            wire.step(23, 0);
        }
        DUE.equal("three faults", Play.told(wire, 1), "1 0 3 0 0 0 1");
        wire.want(0, false, 3, 0, 0);
        wire.step(60, 0);
        DUE.equal("one good frame", Play.told(wire, 1), "1 0 2 0 0 1 1");
    }

    private static void offAbove255() {
        SharedWire wire = new SharedWire();
        wire.want(2, false, 3, 0, 0);
        Play.failToSend(wire, 2, 31);
        DUE.equal("248 is on", Play.told(wire, 2), "1 248 0 1 0 0 4");
        wire.step(1, 4);
        DUE.equal("256 is off", Play.told(wire, 2), "0 256 0 1 0 0 4");
        wire.step(200, 4);
        DUE.equal("stays off", Play.told(wire, 2), "0 256 0 1 0 0 4");
    }

    private static void onWith255() {
        SharedWire wire = new SharedWire();
        wire.want(2, false, 3, 0, 0);
        wire.want(2, false, 3, 0, 0);
        Play.failToSend(wire, 2, 31);
        wire.step(wire.tape(2) + 3, 0);
        Play.failToSend(wire, 2, 1);
        DUE.equal("255 is on", Play.told(wire, 2), "1 255 0 1 1 0 4");
        Play.failToSend(wire, 2, 1);
        DUE.equal("263 is off", Play.told(wire, 2), "0 263 0 1 1 0 4");
    }

    /** One reader, fed by disturbance, finds each of its faults, and just at the bit where it is. */
    private static void faultsOfReaders() {
        String bits = Bits.onWire(false, 0b10101010101, 0x33, 1);
        int end = bits.length() - 8;
        fed("wrong delimiter", Bits.flipped(bits, end - 2), end - 2, 3);
        fed("wrong end of the answer", Bits.flipped(bits, end), end, 3);
        fed("wrong first of seven", Bits.flipped(bits, end + 1), end + 1, 3);
        fed("wrong last of seven", Bits.flipped(bits, end + 7), end + 7, 3);
        String wrongCheck = Bits.head(false, 0b10101010101) + Bits.number(1, 4) + Bits.bytes(0x33, 1);
        String check = Bits.check(wrongCheck);
        String other = check.substring(0, 14) + Bits.other(check.charAt(14));
        String all = Bits.stuffed(wrongCheck + other) + "1" + "1" + "1" + "1111111";
        fed("wrong check, end 1", all, all.length() - 8, 2);
        fed("wrong check, end 0", Bits.flipped(all, all.length() - 8), all.length() - 8, 2);
        fed("five alike and a sixth", "0" + "111110" + "000011", 10, 0);
        fed("stuffed in wrong", "0" + "111111", 6, 1);
    }

    private static void fed(String what, String bits, int faultAt, int fault) {
        SharedWire wire = new SharedWire();
        int answer = bits.length() > 40 ? bits.length() - 9 : -1;
        Play.feed(wire, 2, bits.substring(0, faultAt), answer);
        DUE.equal(what + ": none before", Play.told(wire, 1), "2 0 0 0 0 0 0");
        wire.step(1, bits.charAt(faultAt) == '0' ? 2 : 0);
        DUE.equal(what, Play.told(wire, 1), fault == 0 ? "2 0 0 0 0 0 0" : "1 0 1 0 0 0 " + fault);
        DUE.equal(what + ": wire", wire.wire(), fault == 0 ? 1 : 2);
    }
}
