/** Promise 2, and the order of what a node offers. */
public final class WantTest {
    private static final Due DUE = new Due();

    public static void main(String[] args) {
        countsUpToFour();
        refusesWhatIsNoFrame();
        namesTheFirstException();
        takesTheLowestBytesAlone();
        offersInOrder();
        offersTheFirstOfTheSame();
        sendsOnWhatIsBeingSent();
        offNodeMayWant();
        DUE.end();
    }

    private static void countsUpToFour() {
        SharedWire wire = new SharedWire();
        for (int i = 1; i <= 4; i++) {
            DUE.equal("want number " + i, wire.want(2, i % 2 == 0, i, 0, i), i);
        }
        DUE.refuses("the fifth", UnsupportedOperationException.class, () -> wire.want(2, false, 0, 0, 0));
        DUE.equal("still", wire.node(2, Play.WANTS), 4);
        DUE.equal("another node's first", wire.want(3, false, 1, 0, 0), 1);
        DUE.equal("the offered one", wire.tape(2), Bits.onWire(true, 2, 0, 2).length());
    }

    private static void refusesWhatIsNoFrame() {
        SharedWire wire = new SharedWire();
        int[][] wrong = {{0, 2048, 0}, {0, -1, 0}, {0, Integer.MIN_VALUE, 0}, {0, Integer.MAX_VALUE, 0},
            {1, 1 << 29, 0}, {1, -1, 0}, {1, Integer.MIN_VALUE, 8}, {0, 0, 9}, {0, 0, -1}, {1, 0, 9}, {1, 0, -1},
            {0, 0, Integer.MIN_VALUE}};
        for (int[] w : wrong) {
            DUE.refuses("want long " + w[0] + ", " + w[1] + ", n " + w[2], IllegalArgumentException.class,
                    () -> wire.want(0, w[0] == 1, w[1], 0, w[2]));
        }
        DUE.equal("none is wanted", wire.node(0, Play.WANTS), 0);
        DUE.equal("highest short", wire.want(0, false, 2047, -1, 8), 1);
        DUE.equal("highest long", wire.want(0, true, (1 << 29) - 1, -1, 8), 2);
        DUE.equal("lowest short", wire.want(0, false, 0, 0, 0), 3);
        DUE.equal("lowest long", wire.want(0, true, 0, 0, 0), 4);
    }

    private static void namesTheFirstException() {
        SharedWire wire = new SharedWire();
        for (int i = 0; i < 4; i++) {
            wire.want(0, false, 7, 0, 0);
        }
        DUE.refuses("bad node and identifier", IndexOutOfBoundsException.class, () -> wire.want(4, false, -1, 0, 9));
        DUE.refuses("bad node", IndexOutOfBoundsException.class, () -> wire.want(-1, false, 1, 0, 0));
        DUE.refuses("bad identifier, full", IllegalArgumentException.class, () -> wire.want(0, false, 2048, 0, 0));
        DUE.refuses("bad n, full", IllegalArgumentException.class, () -> wire.want(0, false, 1, 0, 9));
    }

    private static void takesTheLowestBytesAlone() {
        SharedWire wire = new SharedWire();
        wire.want(0, false, 9, 0x8877665544332211L, 3);
        wire.want(1, false, 9, 0x332211L, 3);
        String want = Bits.onWire("0" + "00000001001" + "000" + "0011" + "000100010010001000110011", '1');
        DUE.equal("tape(0)", Bits.tapeOf(wire, wire.tape(0)), want);
        DUE.equal("tape(1)", Bits.tapeOf(wire, wire.tape(1)), want);
    }

    private static void offersInOrder() {
        int[][] inOrder = {{0, 4}, {1, 4 << 18}, {1, (4 << 18) + 1}, {0, 5}, {1, 5 << 18}};
        for (int better = 0; better < inOrder.length; better++) {
            for (int worse = better + 1; worse < inOrder.length; worse++) {
                offersBetter(inOrder[better], inOrder[worse], true);
                offersBetter(inOrder[better], inOrder[worse], false);
            }
        }
    }

    private static void offersBetter(int[] better, int[] worse, boolean betterFirst) {
        SharedWire wire = new SharedWire();
        int[] first = betterFirst ? better : worse;
        int[] second = betterFirst ? worse : better;
        wire.want(0, first[0] == 1, first[1], 0, 0);
        wire.want(0, second[0] == 1, second[1], 0, 0);
        String want = Bits.onWire(better[0] == 1, better[1], 0, 0);
        DUE.equal("offered of " + first[1] + " and " + second[1], Bits.tapeOf(wire, wire.tape(0)), want);
        DUE.equal("sent of them", Play.levels(wire, 20), want.substring(0, 20));
    }

    private static void offersTheFirstOfTheSame() {
        SharedWire wire = new SharedWire();
        wire.want(0, true, 77, 1, 1);
        wire.want(0, true, 78, 9, 1);
        wire.want(0, true, 77, 2, 1);
        wire.want(0, true, 77, 0, 0);
        String[] inTurn = {"77 1 1 1", "77 1 1 2", "77 1 0 0", "78 1 1 9"};
        for (int i = 0; i < 4; i++) {
            int length = wire.tape(0);
            wire.step(length + 3, 0);
            DUE.equal("frame " + i, Play.frame(wire, 1), inTurn[i]);
        }
        DUE.equal("wants no more", wire.node(0, Play.WANTS), 0);
        wantsFourAnew(wire);
    }

    private static void wantsFourAnew(SharedWire wire) {
        for (int i = 1; i <= 4; i++) {
            DUE.equal("anew", wire.want(0, false, 10 + i, i, 1), i);
        }
        for (int i = 1; i <= 4; i++) {
            wire.step(wire.tape(0) + 3, 0);
            DUE.equal("frame anew " + i, Play.frame(wire, 2), (10 + i) + " 0 1 " + i);
        }
    }

    private static void sendsOnWhatIsBeingSent() {
        SharedWire wire = new SharedWire();
        wire.want(0, false, 1000, 1, 1);
        int length = wire.tape(0);
        wire.step(5, 0);
        DUE.equal("want while sending", wire.want(0, false, 1, 2, 1), 2);
        wire.step(length - 5, 0);
        DUE.equal("received first", Play.frame(wire, 3), "1000 0 1 1");
        DUE.equal("left", wire.node(0, Play.WANTS), 1);
        DUE.equal("offered then", Bits.tapeOf(wire, wire.tape(0)), Bits.onWire(false, 1, 2, 1));
        brokenFrameGivesWay();
    }

    private static void brokenFrameGivesWay() {
        SharedWire wire = new SharedWire();
        wire.want(0, false, 1000, 1, 1);
        wire.step(14, 0);
        wire.want(0, false, 1, 2, 1);
        wire.step(1, 1);
        DUE.equal("broken", wire.wire(), 2);
        wire.step(17, 0);
        int length = Bits.onWire(false, 1, 2, 1).length();
        wire.step(length, 0);
        DUE.equal("the better one comes first", Play.frame(wire, 1), "1 0 1 2");
    }

    private static void offNodeMayWant() {
        SharedWire wire = Play.withNodeOff(1);
        DUE.equal("want of an off node", wire.want(1, false, 2, 0, 0), 2);
        DUE.equal("it offers", Bits.tapeOf(wire, wire.tape(1)), Bits.onWire(false, 2, 0, 0));
        DUE.equal("it does not send", wire.step(50, 0), 1);
        DUE.equal("the wire is at rest", wire.wire(), 0);
    }
}
