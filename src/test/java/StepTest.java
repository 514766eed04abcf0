/** Promise 3. What happens in a step stands in RestTest, BusyTest, FaultTest and EndTest. */
public final class StepTest {
    private static final Due DUE = new Due();

    public static void main(String[] args) {
        refusesOtherNumbersOfSteps();
        refusesOtherNodes();
        takesSoManySteps();
        answersTheLastLevel();
        disturbsWhoseBitIsSet();
        disturbsInTheFirstStepAlone();
        noUseWhileBrokenOrPause();
        noUseForOffNodes();
        DUE.end();
    }

    /** Frames for more than 200 steps. */
    private static SharedWire busy() {
        SharedWire wire = Play.wanting(0, true, 5, 0x0123456789abcdefL, 8);
        wire.want(1, false, 5, -1, 8);
        wire.want(2, false, 6, 0, 8);
        return wire;
    }

    /** "So many steps (1 .. 200)" */
    private static void refusesOtherNumbersOfSteps() {
        Twins twins = new Twins(DUE, StepTest::busy);
        for (int steps : new int[] {0, -1, 201, 202, Integer.MIN_VALUE, Integer.MAX_VALUE}) {
            twins.refuse("step(" + steps + ", 0)", IllegalArgumentException.class, w -> w.step(steps, 0));
            twins.refuse("step(" + steps + ", 15)", IllegalArgumentException.class, w -> w.step(steps, 15));
        }
    }

    /** "disturbed (0 .. 15 ...)" */
    private static void refusesOtherNodes() {
        Twins twins = new Twins(DUE, StepTest::busy);
        for (int disturbed : new int[] {-1, 16, 17, 32, Integer.MIN_VALUE, Integer.MAX_VALUE}) {
            twins.refuse("step(1, " + disturbed + ")", IllegalArgumentException.class, w -> w.step(1, disturbed));
            twins.refuse("step(200, " + disturbed + ")", IllegalArgumentException.class, w -> w.step(200, disturbed));
        }
    }

    private static void takesSoManySteps() {
        for (int steps : new int[] {1, 2, 3, 100, 199, 200}) {
            SharedWire atOnce = busy();
            SharedWire oneByOne = busy();
            int level = atOnce.step(steps, 0);
            String levels = Play.levels(oneByOne, steps);
            DUE.equal(steps + " steps, level", level, levels.charAt(steps - 1) - '0');
            DUE.equal(steps + " steps", Play.wholeWire(atOnce), Play.wholeWire(oneByOne));
            DUE.equal(steps + " steps, then", Play.levels(atOnce, 20), Play.levels(oneByOne, 20));
        }
    }

    /** "the level in the last one" */
    private static void answersTheLastLevel() {
        String bits = Bits.onWire(false, 0b10110011101, 0x5a, 1);
        int answer = bits.length() - 9;
        for (int steps = 1; steps <= bits.length(); steps++) {
            SharedWire wire = Play.wanting(0, false, 0b10110011101, 0x5a, 1);
            int due = steps - 1 == answer ? 0 : bits.charAt(steps - 1) - '0';
            DUE.equal("level " + steps, wire.step(steps, 0), due);
        }
    }

    /** "those nodes are disturbed whose bit (1 << node) is 1 in disturbed" */
    private static void disturbsWhoseBitIsSet() {
        for (int disturbed = 0; disturbed <= 15; disturbed++) {
            SharedWire wire = new SharedWire();
            DUE.equal("the level itself, " + disturbed, wire.step(1, disturbed), 1);
            for (int node = 0; node < 4; node++) {
                boolean sawZero = (disturbed >> node & 1) == 1;
                DUE.equal(disturbed + " disturbed, node " + node, wire.node(node, Play.ROLE), sawZero ? 2 : 1);
            }
        }
    }

    /** "in the first of which" */
    private static void disturbsInTheFirstStepAlone() {
        SharedWire wire = new SharedWire();
        wire.step(6, 4);
        DUE.equal("0 11111", Play.told(wire, 2), "2 0 0 0 0 0 0");
        wire.step(1, 0);
        DUE.equal("and a sixth 1", Play.told(wire, 2), "1 0 1 0 0 0 1");
        for (int steps = 2; steps <= 40; steps++) {
            SharedWire atOnce = busy();
            SharedWire inTwo = busy();
            atOnce.step(12, 0);
            inTwo.step(12, 0);
            int level = atOnce.step(steps, 9);
            inTwo.step(1, 9);
            DUE.equal("level, " + steps, level, inTwo.step(steps - 1, 0));
            DUE.equal("wire, " + steps, Play.wholeWire(atOnce), Play.wholeWire(inTwo));
        }
    }

    /** "(... of no use where they see nothing)": while it is broken, and in a pause, but in no step besides */
    private static void noUseWhileBrokenOrPause() {
        for (int at = 0; at <= 18; at++) {
            SharedWire disturbed = broken(at);
            SharedWire quiet = broken(at);
            int level = disturbed.step(1, 15);
            DUE.equal("level of step " + at, level, quiet.step(1, 0));
            boolean same = Play.wholeWire(disturbed).equals(Play.wholeWire(quiet));
            DUE.equal("no use in step " + at, same, at < 17);
        }
    }

    /** So many steps behind a fault. */
    private static SharedWire broken(int steps) {
        SharedWire wire = Play.wanting(0, false, 3, 0, 0);
        wire.step(1, 1);
        Play.pass(wire, steps);
        return wire;
    }

    /** "(... of no use where they see nothing)": so does one that is off */
    private static void noUseForOffNodes() {
        SharedWire atRest = Play.withNodeOff(0);
        String before = Play.wholeWire(atRest);
        DUE.equal("level at rest", atRest.step(1, 1), 1);
        DUE.equal("at rest", Play.wholeWire(atRest), before);
        SharedWire disturbed = Play.withNodeOff(0);
        SharedWire quiet = Play.withNodeOff(0);
        disturbed.want(1, false, 8, 1, 1);
        quiet.want(1, false, 8, 1, 1);
        for (int i = 0; i < 60; i++) {
            DUE.equal("level " + i, disturbed.step(1, 1), quiet.step(1, 0));
        }
        DUE.equal("busy", Play.wholeWire(disturbed), Play.wholeWire(quiet));
        DUE.equal("received by who is on", disturbed.node(2, Play.RECEIVED), 1);
        DUE.equal("not by who is off", disturbed.node(0, Play.RECEIVED), 0);
    }
}
