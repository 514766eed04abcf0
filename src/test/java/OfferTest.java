/** The frame that a node OFFERS: on the tape, and in what it sends. */
public final class OfferTest {
    private static final Due DUE = new Due();
    private static final int LOW = 1 << 18;

    /** {long, identifier}, each before the next. */
    private static final int[][] IN_ORDER = {{0, 0}, {1, 0}, {1, 1}, {1, LOW - 1}, {0, 1}, {1, LOW}, {0, 4}, {1, 4 * LOW},
        {1, 4 * LOW + 1}, {1, 5 * LOW - 1}, {0, 5}, {1, 5 * LOW}, {0, 1023}, {1, 1024 * LOW - 1}, {0, 1024},
        {0, 2046}, {1, 2047 * LOW - 1}, {0, 2047}, {1, 2047 * LOW}, {1, 2048 * LOW - 2}, {1, 2048 * LOW - 1}};

    public static void main(String[] args) {
        inOrder();
        ofFour();
        sameOnesAsTheyCame();
        beingSentGoesOn();
        loserMayOfferAnother();
        brokenFrameGivesWay();
        offNodeOffers();
        DUE.end();
    }

    /** "by the 11 highest bits of the identifier (all, of a short one), short before long, the other bits" */
    private static void inOrder() {
        for (int better = 0; better < IN_ORDER.length; better++) {
            for (int worse = better + 1; worse < IN_ORDER.length; worse++) {
                offersBetter(IN_ORDER[better], IN_ORDER[worse], true);
                offersBetter(IN_ORDER[better], IN_ORDER[worse], false);
                better(IN_ORDER[better], IN_ORDER[worse]);
            }
        }
    }

    private static void offersBetter(int[] better, int[] worse, boolean betterFirst) {
        SharedWire wire = new SharedWire();
        int[] first = betterFirst ? better : worse;
        int[] second = betterFirst ? worse : better;
        wire.want(0, first[0] == 1, first[1], 0, 0);
        wire.want(0, second[0] == 1, second[1], 0, 0);
        String want = Bits.onWire(better[0] == 1, better[1], 0, 0);
        String what = named(first) + " and then " + named(second);
        DUE.equal(what + ", offered", Bits.tapeOf(wire, wire.tape(0)), want);
        wire.step(want.length(), 0);
        DUE.equal(what + ", sent", Play.frame(wire, 1), better[1] + " " + better[0] + " 0 0");
    }

    /** The order is that of the wire: of two nodes the one with the better frame goes on. */
    private static void better(int[] better, int[] worse) {
        SharedWire wire = new SharedWire();
        wire.want(0, worse[0] == 1, worse[1], 0, 0);
        wire.want(1, better[0] == 1, better[1], 0, 0);
        wire.step(wire.tape(1), 0);
        String what = named(better) + " against " + named(worse);
        DUE.equal(what + ", winner", Play.told(wire, 1), "1 0 0 0 1 0 0");
        DUE.equal(what + ", loser", Play.told(wire, 0), "1 0 0 1 0 1 0");
    }

    private static String named(int[] frame) {
        return (frame[0] == 1 ? "long " : "short ") + frame[1];
    }

    /** The first, a middle one or the last that came, of four. */
    private static void ofFour() {
        int[] others = {700, 600, 500};
        for (int place = 0; place < 4; place++) {
            SharedWire wire = new SharedWire();
            for (int i = 0; i < 4; i++) {
                wire.want(0, false, i == place ? 77 : others[i < place ? i : i - 1], 0, 0);
            }
            StringBuilder sent = new StringBuilder();
            for (int i = 0; i < 4; i++) {
                wire.step(wire.tape(0) + 3, 0);
                sent.append(wire.received(1, 0)).append(' ');
            }
            DUE.equal("best at " + place, sent.toString(), "77 500 600 700 ");
        }
    }

    /** "of the same ones that which came first" */
    private static void sameOnesAsTheyCame() {
        SharedWire wire = Play.wanting(0, true, 77, 1, 1);
        wire.want(0, true, 78, 9, 1);
        wire.want(0, true, 77, 2, 1);
        wire.want(0, true, 77, 0, 0);
        String[] inTurn = {"77 1 1 1", "77 1 1 2", "77 1 0 0", "78 1 1 9"};
        for (String due : inTurn) {
            wire.step(wire.tape(0) + 3, 0);
            DUE.equal("in turn", Play.frame(wire, 1), due);
        }
        wire.want(0, false, 5, 4, 1);
        wire.want(0, false, 5, 3, 1);
        wire.step(wire.tape(0) + 3, 0);
        wire.want(0, false, 5, 2, 1);
        for (int data = 3; data >= 2; data--) {
            wire.step(wire.tape(0) + 3, 0);
            DUE.equal("one came when another was gone", Play.frame(wire, 1), "5 0 1 " + data);
        }
    }

    /** "(one that is being sent goes on, whatever is wanted since)" */
    private static void beingSentGoesOn() {
        String first = Bits.onWire(false, 1000, 1, 1);
        String second = Bits.onWire(false, 1, 2, 1);
        for (int steps = 0; steps <= first.length(); steps++) {
            SharedWire wire = Play.wanting(0, false, 1000, 1, 1);
            Play.pass(wire, steps);
            wire.want(0, false, 1, 2, 1);
            boolean isSent = steps > 0 && steps < first.length();
            String what = "a better one wanted after " + steps;
            DUE.equal(what, Bits.tapeOf(wire, wire.tape(0)), isSent ? first : second);
            Play.pass(wire, (isSent ? first.length() - steps : second.length()) + (steps == first.length() ? 3 : 0));
            DUE.equal(what + ", received", Play.frame(wire, 3), isSent ? "1000 0 1 1" : "1 0 1 2");
        }
    }

    /** Who lost is no sender any more, and offers the first in order again. */
    private static void loserMayOfferAnother() {
        SharedWire wire = Play.wanting(0, false, 1000, 1, 1);
        wire.want(1, false, 500, 0, 0);
        wire.step(3, 0);
        DUE.equal("lost", wire.node(0, Play.ROLE), 2);
        DUE.equal("offers it still", Bits.tapeOf(wire, wire.tape(0)), Bits.onWire(false, 1000, 1, 1));
        wire.want(0, false, 999, 2, 1);
        DUE.equal("offers the better one", Bits.tapeOf(wire, wire.tape(0)), Bits.onWire(false, 999, 2, 1));
        wire.want(0, false, 1000, 3, 1);
        Play.pass(wire, wire.tape(1) - 3 + 3);
        String[] inTurn = {"999 0 1 2", "1000 0 1 1", "1000 0 1 3"};
        for (String due : inTurn) {
            wire.step(wire.tape(0) + 3, 0);
            DUE.equal("in turn", Play.frame(wire, 1), due);
        }
    }

    private static void brokenFrameGivesWay() {
        SharedWire wire = Play.wanting(0, false, 1000, 1, 1);
        wire.step(14, 0);
        wire.want(0, false, 1, 2, 1);
        wire.step(1, 1);
        DUE.equal("broken", wire.wire(), 2);
        DUE.equal("offered", Bits.tapeOf(wire, wire.tape(0)), Bits.onWire(false, 1, 2, 1));
        wire.step(17 + Bits.onWire(false, 1, 2, 1).length(), 0);
        DUE.equal("received", Play.frame(wire, 1), "1 0 1 2");
    }

    private static void offNodeOffers() {
        SharedWire wire = Play.withNodeOff(1);
        wire.want(1, false, 2, 0, 0);
        DUE.equal("the better one", Bits.tapeOf(wire, wire.tape(1)), Bits.onWire(false, 2, 0, 0));
        wire.want(1, false, 2, 1, 1);
        DUE.equal("the first of the same", Bits.tapeOf(wire, wire.tape(1)), Bits.onWire(false, 2, 0, 0));
    }
}
