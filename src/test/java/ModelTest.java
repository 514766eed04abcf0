import java.util.ArrayDeque;
import java.util.Deque;
import java.util.Random;

/** Long mixed runs of calls, the same for the class and for the model: every answer must be the same. */
public final class ModelTest {
    private static final int RUNS = 400;
    private static final int CALLS = 512;
    private static final int[] SHORT_ONES = {0, 1, 2, 3, 4, 5, 31, 32, 1023, 1024, 1365, 2016, 2046, 2047};
    private static final int[] LOW_ONES = {0, 1, 2, 3, 0x1ffff, 0x20000, 0x15555, 0x3fffe, 0x3ffff};
    private static final double[] DISTURBED = {0, 0.02, 0.1, 0.4};

    private final Due due;
    private final Random random;
    private final SharedWire wire = new SharedWire();
    private final WireModel model = new WireModel();
    private final Deque<int[]> plannedSteps = new ArrayDeque<>();
    private final StringBuilder log = new StringBuilder();
    private final int run;
    private final double disturbed;
    private int calls = 0;

    private ModelTest(Due due, int run) {
        this.due = due;
        this.run = run;
        this.random = new Random(run);
        this.disturbed = DISTURBED[run % DISTURBED.length];
    }

    public static void main(String[] args) {
        Due due = new Due();
        for (int run = 1; run <= RUNS && !due.anyWrong(); run++) {
            new ModelTest(due, run).all();
        }
        due.end();
    }

    private void all() {
        while (calls < CALLS && !due.anyWrong()) {
            act();
        }
        if (due.anyWrong()) {
            System.out.println("run " + run + ":" + log);
        }
    }

    /** What the class answers behind its 512th call is free. */
    private void same(String call, Due.Call ofClass, Due.Call ofModel) {
        if (calls == CALLS) {
            return;
        }
        calls++;
        String want = outcome(ofModel);
        log.append(' ').append(call).append('=').append(want);
        due.equal("run " + run + ", call " + calls + ", " + call, outcome(ofClass), want);
    }

    private static String outcome(Due.Call call) {
        try {
            return Long.toString(call.answer());
        } catch (RuntimeException e) {
            return e.getClass().getSimpleName();
        }
    }

    private int upTo(int bound) {
        return random.nextInt(bound);
    }

    private int node() {
        return upTo(40) == 0 ? upTo(2) * 5 - 1 : upTo(4);
    }

    private void act() {
        if (!plannedSteps.isEmpty() && upTo(12) != 0) {
            int[] next = plannedSteps.remove();
            step(next[0], next[1]);
            return;
        }
        int kind = upTo(100);
        if (kind < 14) {
            want();
        } else if (kind < 50) {
            randomStep();
        } else if (kind < 75) {
            askNode();
        } else if (kind < 82) {
            askReceived();
        } else if (kind < 85) {
            int node = node();
            same("join(" + node + ")", () -> wire.join(node) ? 1 : 0, () -> model.join(node) ? 1 : 0);
        } else if (kind < 98) {
            useTape();
        } else {
            plan();
        }
    }

    private void want() {
        int node = node();
        boolean isLong = random.nextBoolean();
        int high = upTo(4) == 0 ? upTo(2048) : SHORT_ONES[upTo(SHORT_ONES.length)];
        int low = upTo(4) == 0 ? upTo(1 << 18) : LOW_ONES[upTo(LOW_ONES.length)];
        int odd = upTo(30) == 0 ? (upTo(2) == 0 ? -1 : isLong ? 1 << 29 : 2048) : 0;
        int identifier = odd != 0 ? odd : isLong ? high << 18 | low : high;
        long data = upTo(3) == 0 ? upTo(3) - 1 : random.nextLong();
        int n = upTo(30) == 0 ? upTo(2) * 10 - 1 : upTo(3) == 0 ? upTo(9) : upTo(2);
        same("want(" + node + ", " + isLong + ", " + identifier + ", " + data + "L, " + n + ")",
                () -> wire.want(node, isLong, identifier, data, n),
                () -> model.want(node, isLong, identifier, data, n));
    }

    private void randomStep() {
        int steps = upTo(3) == 0 ? 1 : upTo(8) == 0 ? upTo(202) : 1 + upTo(40);
        int mask = random.nextDouble() < disturbed ? upTo(16) : upTo(80) == 0 ? upTo(2) * 17 - 1 : 0;
        step(steps, mask);
    }

    private void step(int steps, int mask) {
        same("step(" + steps + ", " + mask + ")", () -> wire.step(steps, mask), () -> model.step(steps, mask));
        if (upTo(4) == 0) {
            same("wire()", wire::wire, model::wire);
            askNode();
        }
    }

    private void askNode() {
        int node = node();
        int what = upTo(60) == 0 ? upTo(2) * 8 - 1 : upTo(7);
        same("node(" + node + ", " + what + ")", () -> wire.node(node, what), () -> model.node(node, what));
    }

    private void askReceived() {
        int node = node();
        int what = upTo(20) == 0 ? upTo(2) * 5 - 1 : upTo(4);
        same("received(" + node + ", " + what + ")",
                () -> wire.received(node, what), () -> model.received(node, what));
    }

    private void useTape() {
        int kind = upTo(8);
        if (kind < 2) {
            int node = node();
            same("tape(" + node + ")", () -> wire.tape(node), () -> model.tape(node));
        } else if (kind < 4) {
            int i = upTo(160) - 1;
            same("flip(" + i + ")", () -> {
                wire.flip(i);
                return 0;
            }, () -> {
                model.flip(i);
                return 0;
            });
        } else if (kind == 4) {
            int i = upTo(200) - 1;
            same("bit(" + i + ")", () -> wire.bit(i), () -> model.bit(i));
        } else if (kind == 5) {
            put(random.nextLong(), upTo(3) == 0 ? upTo(68) - 1 : 1 + upTo(12));
        } else if (kind == 6) {
            layForged();
        } else {
            same("wipe()", wire::wipe, model::wipe);
        }
        same("read()", wire::read, model::read);
    }

    private void put(long w, int n) {
        same("put(" + w + "L, " + n + ")", () -> wire.put(w, n) ? 1 : 0, () -> model.put(w, n) ? 1 : 0);
    }

    private void layForged() {
        same("wipe()", wire::wipe, model::wipe);
        String bits = forged();
        for (int from = 0; from < bits.length(); from += 64) {
            String part = bits.substring(from, Math.min(bits.length(), from + 64));
            put(Long.parseUnsignedLong(new StringBuilder(part).reverse().toString(), 2), part.length());
        }
    }

    /** A frame with anything where the document lets a reader take anything. */
    private String forged() {
        boolean isLong = random.nextBoolean();
        int number = upTo(2) == 0 ? upTo(16) : upTo(3);
        String head = "0" + Bits.number(upTo(2048), 11) + upTo(2)
                + (isLong ? "1" + Bits.number(upTo(1 << 18), 18) + Bits.number(upTo(8), 3) : "0" + upTo(2));
        String data = Bits.bytes(upTo(2) == 0 ? random.nextLong() : 0, Math.min(number, 8));
        return Bits.onWire(head + Bits.number(number, 4) + data, (char) ('0' + upTo(2)));
    }

    private void plan() {
        if (!plannedSteps.isEmpty()) {
            return;
        }
        if (upTo(3) == 0) {
            planBreaks();
        } else {
            planFeed();
        }
    }

    /** Enough faults of senders to switch a node off. */
    private void planBreaks() {
        for (int i = 0; i < 34; i++) {
            plannedSteps.add(new int[] {1, 1 + upTo(15)});
            plannedSteps.add(new int[] {17, 0});
        }
    }

    /** With nobody sending, disturbed nodes see 0 just where this wants it, and so read a forged frame. */
    private void planFeed() {
        plannedSteps.add(new int[] {200, 0});
        String bits = forged();
        int mask = 1 + upTo(15);
        int answer = bits.length() - 9;
        int wrongAt = upTo(3) == 0 ? upTo(bits.length()) : -1;
        for (int i = 0; i < bits.length(); i++) {
            int low = bits.charAt(i) == '0' ? mask : 0;
            int atAnswer = upTo(8) == 0 ? upTo(16) : 15 - mask;
            plannedSteps.add(new int[] {1, i == answer ? atAnswer : i == wrongAt ? mask - low : low});
        }
    }
}
