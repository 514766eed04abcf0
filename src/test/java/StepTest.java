/** Promise 3, and what nodes do in a step. */
public final class StepTest {
    private static final Due DUE = new Due();

    public static void main(String[] args) {
        refusesWrongArguments();
        showsTheFrameOnTheWire();
        disturbsOnlyTheFirstStep();
        lowestIdentifierGoesOn();
        longLosesToShort();
        loserReadsOn();
        losesOnlyInTheIdentifier();
        sameFramesGoTogether();
        differentDataIsAFault();
        senderSeesWrongFirstBit();
        nobodyAnswers();
        brokenAndPause();
        faultAtTheEndUndoesAll();
        lateReader();
        offNodeSeesNothing();
        DUE.end();
    }

    private static void refusesWrongArguments() {
        SharedWire wire = new SharedWire();
        wire.want(0, false, 0, 0, 0);
        int[][] wrong = {{0, 0}, {-1, 0}, {201, 0}, {1, -1}, {1, 16}, {0, 16}, {Integer.MAX_VALUE, 0},
            {Integer.MIN_VALUE, 0}, {1, Integer.MIN_VALUE}, {1, Integer.MAX_VALUE}};
        for (int[] w : wrong) {
            DUE.refuses("step(" + w[0] + ", " + w[1] + ")", IllegalArgumentException.class,
                    () -> wire.step(w[0], w[1]));
        }
        DUE.equal("nothing happened", wire.wire(), 0);
        DUE.equal("one step", wire.step(1, 0), 0);
        DUE.equal("200 steps", wire.step(200, 0), 1);
        DUE.equal("all disturbed", new SharedWire().step(1, 15), 1);
    }

    private static void showsTheFrameOnTheWire() {
        for (int isLong = 0; isLong < 2; isLong++) {
            SharedWire wire = new SharedWire();
            wire.want(3, isLong == 1, 31, -256, 8);
            String bits = Bits.onWire(isLong == 1, 31, -256, 8);
            int answer = bits.length() - 9;
            String want = bits.substring(0, answer) + "0" + bits.substring(answer + 1) + "111" + "1";
            DUE.equal("levels, long " + isLong, Play.levels(wire, bits.length() + 4), want);
            DUE.equal("sender", Play.told(wire, 3), "1 0 0 0 1 0 0");
            DUE.equal("reader", Play.told(wire, 0), "1 0 0 0 0 1 0");
        }
    }

    private static void disturbsOnlyTheFirstStep() {
        SharedWire wire = new SharedWire();
        DUE.equal("the level is what it is", wire.step(2, 4), 1);
        DUE.equal("node 2 read 0 1", wire.node(2, Play.ROLE), 2);
        wire.step(4, 0);
        DUE.equal("0 11111 so far", wire.wire(), 1);
        wire.step(1, 0);
        DUE.equal("a sixth 1 is wrong", Play.told(wire, 2), "1 0 1 0 0 0 1");
    }

    private static void lowestIdentifierGoesOn() {
        SharedWire wire = new SharedWire();
        wire.want(0, false, 0b10101010101, 0, 1);
        wire.want(1, false, 0b10101010100, 1, 1);
        wire.want(2, false, 0b10101110100, 2, 1);
        wire.step(6, 0);
        DUE.equal("before they differ", wire.node(2, Play.ROLE), 3);
        wire.step(1, 0);
        DUE.equal("2 loses", Play.told(wire, 2), "2 0 0 1 0 0 0");
        wire.step(4, 0);
        DUE.equal("0 goes on", wire.node(0, Play.ROLE), 3);
        wire.step(1, 0);
        DUE.equal("0 loses with the last bit", Play.told(wire, 0), "2 0 0 1 0 0 0");
        DUE.equal("1 goes on", Play.told(wire, 1), "3 0 0 1 0 0 0");
    }

    private static void longLosesToShort() {
        SharedWire wire = new SharedWire();
        wire.want(0, true, 0b10101010101 << 18, 5, 1);
        wire.want(1, false, 0b10101010101, 6, 1);
        wire.step(12, 0);
        DUE.equal("long goes on", wire.node(0, Play.ROLE), 3);
        wire.step(1, 0);
        DUE.equal("long loses", wire.node(0, Play.ROLE), 2);
        wire.step(Bits.onWire(false, 0b10101010101, 6, 1).length() - 13, 0);
        DUE.equal("long received short", Play.frame(wire, 0), "1365 0 1 6");
        wire.step(3 + Bits.onWire(true, 0b10101010101 << 18, 5, 1).length(), 0);
        DUE.equal("short received long", Play.frame(wire, 1), (0b10101010101 << 18) + " 1 1 5");
    }

    private static void loserReadsOn() {
        SharedWire wire = new SharedWire();
        wire.want(0, true, 0x15555555, 3, 2);
        wire.want(1, true, 0x15555554, 0x1234, 2);
        int length = wire.tape(1);
        wire.step(length, 0);
        DUE.equal("the loser received", Play.frame(wire, 0), 0x15555554 + " 1 2 " + 0x1234);
        DUE.equal("and counts nothing", Play.told(wire, 0), "1 0 0 1 0 1 0");
        wire.step(3, 0);
        DUE.equal("then its own begins", wire.step(1, 0), 0);
        DUE.equal("as sender", wire.node(0, Play.ROLE), 3);
    }

    /** A sender is disturbed at each place in turn: it loses where it sent 1, up to the identifier's end. */
    private static void losesOnlyInTheIdentifier() {
        int[][] frames = {{0, 0b11111011111}, {1, 0x1f7dbeef}, {0, 0}, {1, 0}};
        for (int[] frame : frames) {
            boolean isLong = frame[0] == 1;
            String before = Bits.head(isLong, frame[1]);
            String identifier = before.substring(0, isLong ? 32 : 12);
            String bits = Bits.onWire(isLong, frame[1], 0x5a, 1);
            for (int at = 0; at < bits.length(); at++) {
                boolean stuffed = isStuffed(bits, at, identifier.length());
                boolean inIdentifier = Bits.stuffed(identifier).length() > at && at > 0;
                int due = at == bits.length() - 9 ? 5 : bits.charAt(at) == '1' && !stuffed && inIdentifier ? 0 : 4;
                SharedWire wire = new SharedWire();
                wire.want(0, isLong, frame[1], 0x5a, 1);
                if (at > 0) {
                    wire.step(at, 0);
                }
                wire.step(1, 1);
                String what = "frame " + frame[1] + " disturbed at " + at;
                DUE.equal(what, Play.told(wire, 0), due == 0 ? "2 0 0 1 0 0 0" : "1 8 0 1 0 0 " + due);
                DUE.equal(what + ", wire", wire.wire(), due == 0 ? 1 : 2);
            }
        }
    }

    /** Whether the bit at this index, not behind so many plain bits, follows five alike. */
    private static boolean isStuffed(String bits, int at, int plainBits) {
        return at >= 5 && at < plainBits + plainBits / 4 && Bits.endsAlike(bits.substring(0, at));
    }

    private static void sameFramesGoTogether() {
        SharedWire wire = new SharedWire();
        wire.want(0, true, 99, 7, 1);
        wire.want(2, true, 99, 7, 1);
        wire.step(wire.tape(0), 0);
        DUE.equal("0 sent", Play.told(wire, 0), "1 0 0 0 1 0 0");
        DUE.equal("2 sent", Play.told(wire, 2), "1 0 0 0 1 0 0");
        DUE.equal("1 received one", Play.told(wire, 1), "1 0 0 0 0 1 0");
    }

    private static void differentDataIsAFault() {
        SharedWire wire = new SharedWire();
        wire.want(0, false, 0b10101010101, 0xff, 1);
        wire.want(1, false, 0b10101010101, 0x7f, 1);
        wire.step(19, 0);
        DUE.equal("both send", wire.node(0, Play.ROLE) + wire.node(1, Play.ROLE), 6);
        int steps = 19;
        while (wire.wire() == 1 && steps < 40) {
            wire.step(1, 0);
            steps++;
        }
        DUE.equal("who sent 1 finds it", Play.told(wire, 0), "1 8 0 1 0 0 4");
        DUE.equal("who sent 0 does not", Play.told(wire, 1), "1 0 0 1 0 0 0");
        DUE.equal("nor does a reader", Play.told(wire, 2), "1 0 0 0 0 0 0");
    }

    private static void senderSeesWrongFirstBit() {
        SharedWire wire = new SharedWire();
        wire.want(1, false, 3, 0, 0);
        DUE.equal("level", wire.step(1, 2), 0);
        DUE.equal("fault 4", Play.told(wire, 1), "1 8 0 1 0 0 4");
        DUE.equal("the others are no readers", wire.node(0, Play.ROLE), 1);
        DUE.equal("broken", wire.wire(), 2);
    }

    private static void nobodyAnswers() {
        SharedWire wire = new SharedWire();
        for (int node = 0; node < 4; node++) {
            wire.want(node, false, 0b10101010101, 1, 1);
        }
        int answer = wire.tape(0) - 9;
        wire.step(answer, 0);
        DUE.equal("no answer", wire.step(1, 4), 1);
        DUE.equal("fault 5", Play.told(wire, 0), "1 8 0 1 0 0 5");
        DUE.equal("one saw an answer", Play.told(wire, 2), "1 0 0 1 0 0 0");
    }

    private static void brokenAndPause() {
        SharedWire wire = new SharedWire();
        wire.want(0, false, 3, 0, 0);
        wire.step(1, 1);
        StringBuilder levels = new StringBuilder();
        StringBuilder states = new StringBuilder();
        for (int i = 0; i < 18; i++) {
            states.append(wire.wire());
            levels.append(wire.step(1, i == 17 ? 0 : 15));
        }
        DUE.equal("levels", levels.toString(), "000000" + "11111111" + "111" + "0");
        DUE.equal("states", states.toString(), "22222222222222" + "333" + "0");
        DUE.equal("it begins again", Play.told(wire, 0), "3 8 0 1 0 0 4");
    }

    private static void faultAtTheEndUndoesAll() {
        SharedWire wire = new SharedWire();
        wire.want(0, false, 3, 0, 0);
        int length = wire.tape(0);
        wire.step(length - 1, 0);
        DUE.equal("last step", wire.step(1, 4), 1);
        DUE.equal("not sent", Play.told(wire, 0), "1 0 0 1 0 0 0");
        DUE.equal("not received", Play.told(wire, 1), "1 0 0 0 0 0 0");
        DUE.equal("fault 3", Play.told(wire, 2), "1 0 1 0 0 0 3");
        wire.step(17 + length, 0);
        DUE.equal("sent then", Play.told(wire, 0), "1 0 0 0 1 0 0");
        DUE.equal("one less", Play.told(wire, 2), "1 0 0 0 0 1 3");
    }

    /** Who missed the first bit reads from the next 0 that it sees, and finds its own faults. */
    private static void lateReader() {
        SharedWire wire = new SharedWire();
        wire.want(0, false, 0b11111011111, 0, 0);
        wire.step(1, 8);
        DUE.equal("3 missed it", wire.node(3, Play.ROLE), 1);
        wire.step(5, 0);
        DUE.equal("3 sees 1s", wire.node(3, Play.ROLE), 1);
        wire.step(1, 0);
        DUE.equal("3 reads the 0 stuffed in", wire.node(3, Play.ROLE), 2);
    }

    private static void offNodeSeesNothing() {
        SharedWire wire = Play.withNodeOff(0);
        DUE.equal("rest", wire.step(1, 1), 1);
        DUE.equal("stays rest", wire.wire(), 0);
        wire.want(1, false, 8, 1, 1);
        wire.step(1, 0);
        DUE.equal("off is off", wire.node(0, Play.ROLE), 0);
        wire.step(Bits.onWire(false, 8, 1, 1).length() - 1, 0);
        DUE.equal("received nothing", wire.node(0, Play.RECEIVED), 0);
        DUE.equal("others did", wire.node(2, Play.RECEIVED), 1);
    }
}
