import java.util.ArrayList;
import java.util.List;
import java.util.NoSuchElementException;

/** The document said once more, slowly: every reader reads all that it has seen from the beginning at each bit. */
final class WireModel {
    static final class Frame {
        final boolean isLong;
        final int identifier;
        final long data;
        final int n;
        final String onWire;

        Frame(boolean isLong, int identifier, long data, int n) {
            this.isLong = isLong;
            this.identifier = identifier;
            this.data = n == 8 ? data : data & (1L << 8 * n) - 1;
            this.n = n;
            this.onWire = Bits.onWire(isLong, identifier, data, n);
        }

        /** What decides is what decides on the wire, where 0 wins. */
        String order() {
            return Bits.head(isLong, identifier);
        }
    }

    /** What a reader knows once it has seen these bits. */
    static final class Reading {
        int fault = 0;
        int faultAt = -1;
        boolean answerIsNext = false;
        boolean checkIsRight = false;
        boolean ended = false;
        int end = -1;
        int plainBits = 0;
        boolean stuffedIsNext = false;
        Frame frame = null;

        Reading(String seen) {
            StringBuilder plain = new StringBuilder();
            int i = 0;
            while (missing(plain)) {
                boolean due = fiveAlikeBefore(seen, i);
                if (i == seen.length()) {
                    stuffedIsNext = due;
                    plainBits = plain.length();
                    return;
                }
                char bit = seen.charAt(i);
                if (i == 0 && bit == '1') {
                    found(3, 0);
                    return;
                }
                if (due && bit == seen.charAt(i - 1)) {
                    found(1, i);
                    return;
                }
                if (!due) {
                    plain.append(bit);
                }
                i++;
            }
            plainBits = plain.length();
            readTail(seen, i, plain.toString());
        }

        private static boolean fiveAlikeBefore(String seen, int end) {
            for (int i = end - 4; i < end; i++) {
                if (i < 1 || seen.charAt(i) != seen.charAt(i - 1)) {
                    return false;
                }
            }
            return true;
        }

        private static int numberAt(CharSequence plain) {
            return plain.charAt(13) == '1' ? 35 : 15;
        }

        private static int bytesOf(CharSequence plain) {
            int at = numberAt(plain);
            return Math.min(8, Integer.parseInt(plain.subSequence(at, at + 4).toString(), 2));
        }

        private static boolean missing(CharSequence plain) {
            return plain.length() < 14 || plain.length() < numberAt(plain) + 4
                    || plain.length() < numberAt(plain) + 4 + 8 * bytesOf(plain) + 15;
        }

        private void readTail(String seen, int from, String plain) {
            String before = plain.substring(0, plain.length() - 15);
            checkIsRight = plain.equals(before + Bits.check(before));
            String tail = seen.substring(from);
            answerIsNext = tail.equals("1");
            for (int k = 0; k < Math.min(10, tail.length()); k++) {
                if (k == 2 && !checkIsRight) {
                    found(2, from + k);
                    return;
                }
                if (k != 1 && tail.charAt(k) == '0') {
                    found(3, from + k);
                    return;
                }
            }
            if (tail.length() >= 10) {
                ended = true;
                end = from + 10;
                frame = frameOf(plain);
            }
        }

        private static Frame frameOf(String plain) {
            boolean isLong = plain.charAt(13) == '1';
            String identifier = plain.substring(1, 12) + (isLong ? plain.substring(14, 32) : "");
            long data = 0;
            int n = bytesOf(plain);
            for (int i = 0; i < n; i++) {
                int at = numberAt(plain) + 4 + 8 * i;
                data |= Long.parseLong(plain.substring(at, at + 8), 2) << 8 * i;
            }
            return new Frame(isLong, Integer.parseInt(identifier, 2), data, n);
        }

        private void found(int what, int where) {
            fault = what;
            faultAt = where;
        }
    }

    private static final class Node {
        boolean on = true;
        boolean sender = false;
        boolean reader = false;
        int sendCount = 0;
        int receiveCount = 0;
        int sentFrames = 0;
        int receivedFrames = 0;
        int lastFault = 0;
        int found = 0;
        char sent = '1';
        Frame received = null;
        Frame sending = null;
        String seen = "";
        final List<Frame> wants = new ArrayList<>();

        Frame offered() {
            if (sender) {
                return sending;
            }
            Frame first = null;
            for (Frame frame : wants) {
                if (first == null || frame.order().compareTo(first.order()) < 0) {
                    first = frame;
                }
            }
            return first;
        }

        void neither() {
            sender = false;
            reader = false;
            seen = "";
        }
    }

    private final Node[] nodes = {new Node(), new Node(), new Node(), new Node()};
    private String tape = "";
    private int state = 0;
    private int left = 0;

    private Node at(int node) {
        if (node < 0 || node > 3) {
            throw new IndexOutOfBoundsException();
        }
        return nodes[node];
    }

    int want(int node, boolean isLong, int identifier, long data, int n) {
        Node x = at(node);
        if (identifier < 0 || identifier > (isLong ? 536870911 : 2047) || n < 0 || n > 8) {
            throw new IllegalArgumentException();
        }
        if (x.wants.size() == 4) {
            throw new UnsupportedOperationException();
        }
        x.wants.add(new Frame(isLong, identifier, data, n));
        return x.wants.size();
    }

    int step(int steps, int disturbed) {
        if (steps < 1 || steps > 200 || disturbed < 0 || disturbed > 15) {
            throw new IllegalArgumentException();
        }
        int level = one(disturbed);
        for (int i = 1; i < steps; i++) {
            level = one(0);
        }
        return level;
    }

    private int one(int disturbed) {
        if (state == 2) {
            left--;
            int level = left >= 8 ? 0 : 1;
            if (left == 0) {
                state = 3;
                left = 3;
            }
            return level;
        }
        if (state == 3) {
            left--;
            if (left == 0) {
                state = 0;
            }
            return 1;
        }
        char level = '1';
        for (Node x : nodes) {
            x.sent = sends(x);
            if (x.sent == '0') {
                level = '0';
            }
        }
        for (int i = 0; i < 4; i++) {
            nodes[i].found = 0;
            if (nodes[i].on) {
                sees(nodes[i], (disturbed & 1 << i) != 0 ? Bits.other(level) : level);
            }
        }
        settle();
        return level - '0';
    }

    private char sends(Node x) {
        if (!x.on) {
            return '1';
        }
        if (state == 0 && x.offered() != null) {
            x.sending = x.offered();
            x.sender = true;
            x.seen = "";
        }
        if (x.sender) {
            return x.sending.onWire.charAt(x.seen.length());
        }
        if (x.reader) {
            Reading so = new Reading(x.seen);
            return so.answerIsNext && so.checkIsRight ? '0' : '1';
        }
        return '1';
    }

    private void sees(Node x, char bit) {
        if (x.sender) {
            seesAsSender(x, bit);
        } else if (x.reader) {
            x.found = new Reading(x.seen + bit).fault;
        } else if (bit == '0') {
            x.reader = true;
        }
        if (x.sender || x.reader) {
            x.seen += bit;
        }
    }

    private void seesAsSender(Node x, char bit) {
        Reading so = new Reading(x.seen);
        if (so.answerIsNext) {
            x.found = bit == '1' ? 5 : 0;
            return;
        }
        if (bit == x.sent) {
            return;
        }
        int toCome = (x.sending.isLong ? 35 : 15) - so.plainBits - 1;
        if (x.sent == '1' && !so.stuffedIsNext && toCome > 2) {
            x.sender = false;
            x.reader = true;
        } else {
            x.found = 4;
        }
    }

    private void settle() {
        boolean broken = false;
        for (Node x : nodes) {
            broken |= x.found != 0;
        }
        boolean working = false;
        for (Node x : nodes) {
            if (broken) {
                count(x);
                x.neither();
            } else {
                end(x);
            }
            working |= x.sender || x.reader;
        }
        if (broken) {
            state = 2;
            left = 14;
        } else if (working) {
            state = 1;
        } else if (state == 1) {
            state = 3;
            left = 3;
        }
    }

    private static void count(Node x) {
        if (x.found == 0) {
            return;
        }
        x.lastFault = x.found;
        if (x.sender) {
            x.sendCount += 8;
            x.on = x.sendCount <= 255;
        } else {
            x.receiveCount++;
        }
    }

    private static void end(Node x) {
        if (x.sender && x.seen.length() == x.sending.onWire.length()) {
            x.wants.remove(x.sending);
            x.sentFrames++;
            x.sendCount -= x.sendCount > 0 ? 1 : 0;
            x.neither();
        } else if (x.reader) {
            Reading so = new Reading(x.seen);
            if (so.ended) {
                x.received = so.frame;
                x.receivedFrames++;
                x.receiveCount -= x.receiveCount > 0 ? 1 : 0;
                x.neither();
            }
        }
    }

    boolean join(int node) {
        Node x = at(node);
        if (x.on) {
            return false;
        }
        x.on = true;
        x.sendCount = 0;
        x.receiveCount = 0;
        return true;
    }

    int wire() {
        return state;
    }

    int node(int node, int what) {
        Node x = at(node);
        if (what < 0 || what > 6) {
            throw new IndexOutOfBoundsException();
        }
        int role = !x.on ? 0 : x.sender ? 3 : x.reader ? 2 : 1;
        int[] all = {role, x.sendCount, x.receiveCount, x.wants.size(), x.sentFrames, x.receivedFrames, x.lastFault};
        return all[what];
    }

    long received(int node, int what) {
        Node x = at(node);
        if (what < 0 || what > 3) {
            throw new IndexOutOfBoundsException();
        }
        if (x.received == null) {
            throw new NoSuchElementException();
        }
        long[] all = {x.received.identifier, x.received.isLong ? 1 : 0, x.received.n, x.received.data};
        return all[what];
    }

    int tape(int node) {
        Node x = at(node);
        if (x.offered() == null) {
            throw new NoSuchElementException();
        }
        tape = x.offered().onWire;
        return tape.length();
    }

    boolean put(long w, int n) {
        if (n < 1 || n > 64 || tape.length() + n > 200) {
            return false;
        }
        tape += new StringBuilder(Bits.number(w, n)).reverse();
        return true;
    }

    int bit(int i) {
        if (i < 0 || i >= tape.length()) {
            throw new IndexOutOfBoundsException();
        }
        return tape.charAt(i) - '0';
    }

    void flip(int i) {
        int old = bit(i);
        tape = tape.substring(0, i) + (1 - old) + tape.substring(i + 1);
    }

    int wipe() {
        int length = tape.length();
        tape = "";
        return length;
    }

    int read() {
        Reading so = new Reading(tape);
        if (so.fault != 0) {
            return 1000 * so.fault + so.faultAt;
        }
        if (!so.ended) {
            return 4000 + tape.length();
        }
        return so.end < tape.length() ? 5000 + so.end : 0;
    }
}
