/** "If some nodes found faults in a step": what they count, who is off, and the wire BROKEN and in its PAUSE. */
public final class FaultTest {
    private static final Due DUE = new Due();
    private static final String UNTOUCHED = "1 0 0 0 0 0 0";

    public static void main(String[] args) {
        senderCountsEight();
        readerCountsOne();
        sendersAndReadersAtOnce();
        loserInAFaultyStep();
        allAreNeitherThen();
        offAbove255();
        readersAreNeverOff();
        onlyWhoFoundOneIsOff();
        brokenFromTheNextStep();
        brokenFor14Steps();
        pauseOf3Steps();
        zeroForSixSteps();
        nodesNeitherSendNorSee();
        DUE.end();
    }

    /** "each of these that is a sender counts 8 more for sending" */
    private static void senderCountsEight() {
        SharedWire wire = Play.wanting(1, false, 3, 0, 0);
        for (int i = 1; i <= 5; i++) {
            Play.failToSend(wire, 1, 1);
            DUE.equal("fault " + i, Play.told(wire, 1), "1 " + 8 * i + " 0 1 0 0 4");
            DUE.equal("a reader has found none", Play.told(wire, 0), UNTOUCHED);
        }
    }

    /** "each that is a reader 1 more for receiving" */
    private static void readerCountsOne() {
        SharedWire wire = new SharedWire();
        for (int i = 1; i <= 5; i++) {
            wire.step(24, 2);
            DUE.equal("fault " + i, Play.told(wire, 1), "1 0 " + i + " 0 0 0 1");
            DUE.equal("rest again", wire.wire(), 0);
            DUE.equal("who has found none", Play.told(wire, 0), UNTOUCHED);
        }
    }

    private static void sendersAndReadersAtOnce() {
        SharedWire wire = Play.wanting(0, false, 5, 0xa5, 1);
        wire.want(1, false, 5, 0xa5, 1);
        wire.step(wire.tape(0) - 10, 0);
        wire.step(1, 1 + 4);
        DUE.equal("a sender sees the delimiter as 0", Play.told(wire, 0), "1 8 0 1 0 0 4");
        DUE.equal("the other sender", Play.told(wire, 1), "1 0 0 1 0 0 0");
        DUE.equal("a reader sees it as 0", Play.told(wire, 2), "1 0 1 0 0 0 3");
        DUE.equal("the other reader", Play.told(wire, 3), UNTOUCHED);
        SharedWire both = Play.wanting(0, false, 5, 0xa5, 1);
        both.want(1, false, 5, 0xa5, 1);
        both.step(1, 3);
        DUE.equal("both senders", Play.told(both, 0) + ", " + Play.told(both, 1), "1 8 0 1 0 0 4, 1 8 0 1 0 0 4");
    }

    private static void loserInAFaultyStep() {
        SharedWire wire = Play.wanting(0, false, 0b11000000000, 0, 0);
        wire.want(1, false, 0b10100000000, 0, 0);
        wire.step(2, 0);
        wire.step(1, 2);
        DUE.equal("who sent 0 and saw 1", Play.told(wire, 1), "1 8 0 1 0 0 4");
        DUE.equal("who lost in that step", Play.told(wire, 0), "1 0 0 1 0 0 0");
    }

    /** "(all nodes are neither senders nor readers then)" */
    private static void allAreNeitherThen() {
        SharedWire wire = Play.wanting(0, false, 5, 0xa5, 1);
        wire.want(1, false, 5, 0xa5, 1);
        wire.step(20, 0);
        DUE.equal("before", roles(wire), "3322");
        wire.step(1, 1);
        DUE.equal("just behind", roles(wire), "1111");
        for (int i = 0; i < 17; i++) {
            wire.step(1, 0);
            DUE.equal("step " + i, roles(wire), "1111");
        }
        wire.step(1, 0);
        DUE.equal("anew", roles(wire), "3322");
    }

    private static String roles(SharedWire wire) {
        StringBuilder text = new StringBuilder();
        for (int node = 0; node < 4; node++) {
            text.append(wire.node(node, Play.ROLE));
        }
        return text.toString();
    }

    /** "one whose count of sending is above 255 then is off": 255 is on, 256 and more is off */
    private static void offAbove255() {
        for (int good = 0; good <= 2; good++) {
            SharedWire wire = new SharedWire();
            for (int i = 0; i <= good; i++) {
                wire.want(2, false, 3, 0, 0);
            }
            Play.failToSend(wire, 2, 31);
            DUE.equal("248 is on", wire.node(2, Play.ROLE), 1);
            for (int i = 0; i < good; i++) {
                wire.step(wire.tape(2) + 3, 0);
            }
            wire.step(1, 4);
            int count = 256 - good;
            int role = count > 255 ? 0 : 1;
            DUE.equal("off with " + count, Play.told(wire, 2), role + " " + count + " 0 1 " + good + " 0 4");
            wire.step(17, 0);
            wire.step(1, 4);
            int next = count > 255 ? count : count + 8;
            DUE.equal("off then with " + next, Play.told(wire, 2), "0 " + next + " 0 1 " + good + " 0 4");
        }
    }

    private static void readersAreNeverOff() {
        SharedWire wire = new SharedWire();
        for (int i = 0; i < 300; i++) {
            wire.step(24, 2);
        }
        DUE.equal("300 faults", Play.told(wire, 1), "1 0 300 0 0 0 1");
    }

    private static void onlyWhoFoundOneIsOff() {
        SharedWire wire = Play.wanting(0, false, 3, 0, 0);
        wire.want(1, false, 3, 0, 0);
        Play.failToSend(wire, 0, 31);
        Play.failToSend(wire, 1, 31);
        wire.step(1, 1);
        DUE.equal("who found it", Play.told(wire, 0), "0 256 0 1 0 0 4");
        DUE.equal("who did not", Play.told(wire, 1), "1 248 0 1 0 0 4");
        wire.step(17, 0);
        wire.step(1, 0);
        DUE.equal("who is off does not begin", roles(wire), "0322");
        wire.step(1, 1);
        DUE.equal("nor find anything", Play.told(wire, 0), "0 256 0 1 0 0 4");
    }

    private static SharedWire justBroken() {
        SharedWire wire = Play.wanting(0, false, 3, 0, 0);
        wire.step(1, 1);
        return wire;
    }

    /** "the wire is broken from the next step on": the level of the step itself is what the nodes send */
    private static void brokenFromTheNextStep() {
        SharedWire sentOne = Play.wanting(0, false, 5, 0xa5, 1);
        sentOne.step(sentOne.tape(0) - 10, 0);
        DUE.equal("busy before", sentOne.wire(), 1);
        DUE.equal("the level where the fault is found", sentOne.step(1, 1), 1);
        DUE.equal("broken behind", sentOne.wire(), 2);
        DUE.equal("the level of the next step", sentOne.step(1, 0), 0);
        SharedWire sentZero = Play.wanting(0, false, 5, 0xa5, 1);
        DUE.equal("the level where the first bit is wrong", sentZero.step(1, 1), 0);
        DUE.equal("six steps of 0 behind it", Play.levels(sentZero, 7), "0000001");
    }

    /** "BROKEN for 14 steps (a pause comes behind them)" */
    private static void brokenFor14Steps() {
        for (int steps = 0; steps <= 15; steps++) {
            SharedWire wire = justBroken();
            Play.pass(wire, steps);
            DUE.equal("after " + steps, wire.wire(), steps < 14 ? 2 : 3);
        }
    }

    /** "in a PAUSE of 3 steps (then it is at rest)": behind a broken frame, and behind a good one */
    private static void pauseOf3Steps() {
        for (int steps = 0; steps <= 4; steps++) {
            SharedWire broken = justBroken();
            broken.step(14, 0);
            Play.pass(broken, steps);
            SharedWire good = Play.wanting(0, false, 3, 0, 0);
            good.want(0, false, 3, 0, 0);
            good.step(good.tape(0), 0);
            Play.pass(good, steps);
            int due = steps < 3 ? 3 : steps == 3 ? 0 : 1;
            DUE.equal("broken and " + steps, broken.wire(), due);
            DUE.equal("good and " + steps, good.wire(), due);
        }
    }

    /**
     * "(... but as said while it is broken)": "the level is 0 in the first six steps in which it is broken,
     * and 1 in the others"
     */
    private static void zeroForSixSteps() {
        DUE.equal("levels", Play.levels(justBroken(), 18), "000000" + "11111111" + "111" + "0");
        for (int steps = 1; steps <= 17; steps++) {
            DUE.equal("level of step " + steps, justBroken().step(steps, 0), steps <= 6 ? 0 : 1);
        }
    }

    /** "While it is broken, and in a pause, nodes neither send nor see anything" */
    private static void nodesNeitherSendNorSee() {
        SharedWire wire = justBroken();
        wire.want(1, false, 1, 0, 0);
        String before = Play.told(wire, 0) + Play.told(wire, 1) + Play.told(wire, 2);
        StringBuilder levels = new StringBuilder();
        for (int i = 0; i < 17; i++) {
            levels.append(wire.step(1, 15));
            DUE.equal("told in step " + i, Play.told(wire, 0) + Play.told(wire, 1) + Play.told(wire, 2), before);
        }
        DUE.equal("levels", levels.toString(), "000000" + "11111111" + "111");
        DUE.equal("then they send", wire.step(1, 0), 0);
        DUE.equal("and see", roles(wire), "3322");
    }
}
