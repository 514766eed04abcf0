import java.util.NoSuchElementException;

/**
 * A wire that all nodes pull down and none pushes up, after CAN 2.0, with a tape on which frames
 * can be laid out and read. One step is one bit.
 */
public final class SharedWire {
    public static final int NONE = -1;

    private static final int NODES = 4;
    private static final int TAPE_LIMIT = 200;
    private static final int STEP_LIMIT = 200;
    private static final int ALL_DISTURBED = 15;

    private static final int REST = 0;
    private static final int BUSY = 1;
    private static final int BROKEN = 2;
    private static final int PAUSE = 3;

    private static final int BROKEN_STEPS = 14;
    private static final int BROKEN_LOW_STEPS = 6;
    private static final int PAUSE_STEPS = 3;

    private static final int NO_FAULT = 0;
    private static final int STUFF_FAULT = 1;
    private static final int CHECK_FAULT = 2;
    private static final int FORM_FAULT = 3;
    private static final int LEVEL_FAULT = 4;
    private static final int ANSWER_FAULT = 5;

    private static final int READ_TOO_SHORT = 4000;
    private static final int READ_TOO_LONG = 5000;

    private final Node[] nodes;
    private final int[] tapeBits;
    private final Reader tapeReader;
    private int tapeLength;
    private int state;
    private int stepsInState;

    public SharedWire() {
        nodes = new Node[NODES];
        for (int i = 0; i < NODES; i++) {
            nodes[i] = new Node();
        }
        tapeBits = new int[TAPE_LIMIT];
        tapeReader = new Reader();
        tapeLength = 0;
        state = REST;
        stepsInState = 0;
    }

    public int want(int node, boolean isLong, int identifier, long data, int n)
            throws IndexOutOfBoundsException, IllegalArgumentException, UnsupportedOperationException {
        needNode(node);
        if (!Frame.mayHave(isLong, identifier, n)) {
            throw new IllegalArgumentException("no such identifier or number of bytes");
        }
        if (nodes[node].wants >= Node.WANT_LIMIT) {
            throw new UnsupportedOperationException("the node wants to send four frames already");
        }
        return nodes[node].addWanted(isLong, identifier, data, n);
    }

    public int step(int steps, int disturbed) throws IllegalArgumentException {
        if (steps < 1 || steps > STEP_LIMIT || disturbed < 0 || disturbed > ALL_DISTURBED) {
            throw new IllegalArgumentException("no such number of steps or set of nodes");
        }
        int level = oneStep(disturbed);
        for (int i = 1; i < steps; i++) {
            level = oneStep(0);
        }
        return level;
    }

    public boolean join(int node) throws IndexOutOfBoundsException {
        needNode(node);
        return nodes[node].switchOn();
    }

    public int wire() {
        return state;
    }

    public int node(int node, int what) throws IndexOutOfBoundsException {
        needNode(node);
        Node asked = nodes[node];
        switch (what) {
            case 0:
                return asked.role;
            case 1:
                return asked.sendCount;
            case 2:
                return asked.receiveCount;
            case 3:
                return asked.wants;
            case 4:
                return asked.framesSent;
            case 5:
                return asked.framesReceived;
            case 6:
                return asked.lastFault;
            default:
                throw new IndexOutOfBoundsException("no such property of a node");
        }
    }

    public long received(int node, int what) throws IndexOutOfBoundsException, NoSuchElementException {
        needNode(node);
        if (what < 0 || what > 3) {
            throw new IndexOutOfBoundsException("no such property of a frame");
        }
        if (nodes[node].framesReceived == 0) {
            throw new NoSuchElementException("the node received no frame");
        }
        Frame frame = nodes[node].lastReceived;
        switch (what) {
            case 0:
                return frame.identifier;
            case 1:
                return frame.isLong ? 1 : 0;
            case 2:
                return frame.bytes;
            default:
                return frame.data;
        }
    }

    public int tape(int node) throws IndexOutOfBoundsException, NoSuchElementException {
        needNode(node);
        if (nodes[node].wants == 0) {
            throw new NoSuchElementException("the node offers no frame");
        }
        layOnTape(nodes[node].offered());
        return tapeLength;
    }

    public boolean put(long w, int n) {
        if (n < 1 || n > 64 || tapeLength + n > TAPE_LIMIT) {
            return false;
        }
        for (int i = 0; i < n; i++) {
            tapeBits[tapeLength + i] = (int) (w >>> i & 1);
        }
        tapeLength += n;
        return true;
    }

    public int bit(int i) throws IndexOutOfBoundsException {
        needBit(i);
        return tapeBits[i];
    }

    public void flip(int i) throws IndexOutOfBoundsException {
        needBit(i);
        tapeBits[i] = 1 - tapeBits[i];
    }

    public int wipe() {
        int length = tapeLength;
        tapeLength = 0;
        return length;
    }

    public int read() {
        tapeReader.begin();
        for (int i = 0; i < tapeLength; i++) {
            if (tapeReader.hasAll()) {
                return READ_TOO_LONG + i;
            }
            int fault = tapeReader.take(tapeBits[i]);
            if (fault != NO_FAULT) {
                return 1000 * fault + i;
            }
        }
        return tapeReader.hasAll() ? 0 : READ_TOO_SHORT + tapeLength;
    }

    private static void needNode(int node) {
        if (node < 0 || node >= NODES) {
            throw new IndexOutOfBoundsException("no such node");
        }
    }

    private void needBit(int i) {
        if (i < 0 || i >= tapeLength) {
            throw new IndexOutOfBoundsException("no such bit");
        }
    }

    private void layOnTape(Frame frame) {
        tapeReader.begin();
        tapeLength = 0;
        for (int i = 0; i < TAPE_LIMIT && !tapeReader.hasAll(); i++) {
            int level = tapeReader.nextOf(frame);
            tapeBits[i] = level;
            tapeReader.take(level);
            tapeLength++;
        }
    }

    private int oneStep(int disturbed) {
        if (state == BROKEN) {
            return brokenStep();
        }
        if (state == PAUSE) {
            return pauseStep();
        }
        if (state == REST) {
            letNodesBegin();
        }
        int level = letNodesSend();
        if (letNodesSee(level, disturbed)) {
            breakOff();
        } else {
            goOn();
        }
        return level;
    }

    private int brokenStep() {
        int level = stepsInState < BROKEN_LOW_STEPS ? 0 : 1;
        stepsInState++;
        if (stepsInState >= BROKEN_STEPS) {
            enter(PAUSE);
        }
        return level;
    }

    private int pauseStep() {
        stepsInState++;
        if (stepsInState >= PAUSE_STEPS) {
            enter(REST);
        }
        return 1;
    }

    private void enter(int nextState) {
        state = nextState;
        stepsInState = 0;
    }

    private void letNodesBegin() {
        for (int i = 0; i < NODES; i++) {
            nodes[i].beginToSend();
        }
    }

    private int letNodesSend() {
        int level = 1;
        for (int i = 0; i < NODES; i++) {
            level &= nodes[i].send();
        }
        return level;
    }

    /** Answers whether a node found a fault. */
    private boolean letNodesSee(int level, int disturbed) {
        boolean wrong = false;
        for (int i = 0; i < NODES; i++) {
            int seen = level ^ (disturbed >> i & 1);
            nodes[i].see(seen);
            wrong = wrong || nodes[i].fault != NO_FAULT;
        }
        return wrong;
    }

    private void breakOff() {
        for (int i = 0; i < NODES; i++) {
            nodes[i].breakOff();
        }
        enter(BROKEN);
    }

    private void goOn() {
        boolean someAtWork = false;
        for (int i = 0; i < NODES; i++) {
            nodes[i].endFrame();
            someAtWork = someAtWork || nodes[i].isAtWork();
        }
        if (someAtWork) {
            enter(BUSY);
        } else if (state == BUSY) {
            enter(PAUSE);
        }
    }

    /** A frame's content, and where its bits stand before any are stuffed in. */
    private static final class Frame {
        static final int HIGH_BITS = 11;
        static final int LOW_BITS = 18;
        static final int NUMBER_BITS = 4;
        static final int CHECK_BITS = 15;
        static final int BYTE_LIMIT = 8;
        static final int LONG_MARK_PLACE = 13;
        static final int LOW_PLACE = 14;
        static final int SHORT_NUMBER_PLACE = 15;
        static final int LONG_NUMBER_PLACE = 35;

        private static final int LOW_MASK = (1 << LOW_BITS) - 1;

        boolean isLong;
        int identifier;
        long data;
        int bytes;
        int numberPlace;
        private int high;
        private int rank;

        static boolean mayHave(boolean isLong, int identifier, int bytes) {
            int identifierBits = isLong ? HIGH_BITS + LOW_BITS : HIGH_BITS;
            return identifier >= 0 && identifier < 1 << identifierBits && bytes >= 0 && bytes <= BYTE_LIMIT;
        }

        void become(boolean newIsLong, int newIdentifier, long newData, int newBytes) {
            isLong = newIsLong;
            identifier = newIdentifier;
            data = newData;
            bytes = newBytes;
            numberPlace = isLong ? LONG_NUMBER_PLACE : SHORT_NUMBER_PLACE;
            high = isLong ? identifier >> LOW_BITS : identifier;
            int low = isLong ? identifier & LOW_MASK : 0;
            rank = (high << 1 | (isLong ? 1 : 0)) << LOW_BITS | low;
        }

        boolean comesBefore(Frame other) {
            return rank < other.rank;
        }

        /** The bit that stands at a place before the check. */
        int levelAt(int place) {
            if (place < 1) {
                return 0;
            }
            if (place <= HIGH_BITS) {
                return high >> (HIGH_BITS - place) & 1;
            }
            if (place < numberPlace) {
                return isLong ? levelBehindHigh(place) : 0;
            }
            if (place < numberPlace + NUMBER_BITS) {
                return bytes >> (numberPlace + NUMBER_BITS - 1 - place) & 1;
            }
            return (int) (data >>> dataShift(place - numberPlace - NUMBER_BITS) & 1);
        }

        /** The lowest byte comes first, but of a byte the highest bit: so only three bits are turned round. */
        static int dataShift(int dataPlace) {
            return dataPlace ^ 7;
        }

        private int levelBehindHigh(int place) {
            if (place < LOW_PLACE) {
                return 1;
            }
            if (place < LOW_PLACE + LOW_BITS) {
                return identifier >> (LOW_PLACE + LOW_BITS - 1 - place) & 1;
            }
            return 0;
        }
    }

    /**
     * Takes the bits of a frame on the wire one after the other. A sender keeps one too, and feeds
     * it what it sends: so it knows where it is, and can go on as a reader when it loses.
     */
    private static final class Reader {
        private static final int UNKNOWN_PLACE = 1000;
        private static final int ALIKE_LIMIT = 5;
        private static final int CHECK_TOP = 1 << (Frame.CHECK_BITS - 1);
        private static final int CHECK_MASK = (1 << Frame.CHECK_BITS) - 1;
        private static final int CHECK_TAPS = 0x4599;

        private static final int ANSWER = 1;
        private static final int ANSWER_END = 2;
        private static final int TAIL_BITS = 10;

        int place;
        private int tailPlace;
        private int last;
        private int alike;
        private int check;
        private int checkRead;
        private int numberPlace;
        private int checkPlace;
        private boolean isLong;
        private int identifier;
        private int bytes;
        private long data;

        void begin() {
            place = 0;
            tailPlace = 0;
            last = 1;
            alike = 0;
            check = 0;
            checkRead = 0;
            numberPlace = Frame.SHORT_NUMBER_PLACE;
            checkPlace = UNKNOWN_PLACE;
            isLong = false;
            identifier = 0;
            bytes = 0;
            data = 0;
        }

        /** Answers the fault that this bit is. */
        int take(int level) {
            if (isBehindCheck()) {
                return takeTail(level);
            }
            if (place == 0 && level == 1) {
                return FORM_FAULT;
            }
            boolean isStuffed = isStuffedNext();
            if (isStuffed && level == last) {
                return STUFF_FAULT;
            }
            countAlike(level);
            if (!isStuffed) {
                takeFrameBit(level);
                place++;
            }
            return NO_FAULT;
        }

        /** The bit that a sender of the frame sends next. */
        int nextOf(Frame frame) {
            if (isBehindCheck()) {
                return 1;
            }
            if (isStuffedNext()) {
                return 1 - last;
            }
            if (place < checkPlace) {
                return frame.levelAt(place);
            }
            return check >> (checkPlace + Frame.CHECK_BITS - 1 - place) & 1;
        }

        boolean hasAll() {
            return tailPlace >= TAIL_BITS;
        }

        boolean isAtAnswer() {
            return isBehindCheck() && tailPlace == ANSWER;
        }

        boolean isCheckRight() {
            return check == checkRead;
        }

        /** Holds up to the end of the check alone, behind which nothing is stuffed in. */
        boolean isStuffedNext() {
            return alike >= ALIKE_LIMIT;
        }

        void copyTo(Frame frame) {
            frame.become(isLong, identifier, data, bytes);
        }

        private boolean isBehindCheck() {
            return place >= checkPlace + Frame.CHECK_BITS;
        }

        private int takeTail(int level) {
            int at = tailPlace;
            tailPlace++;
            if (at == ANSWER) {
                return NO_FAULT;
            }
            if (at == ANSWER_END && !isCheckRight()) {
                return CHECK_FAULT;
            }
            return level == 1 ? NO_FAULT : FORM_FAULT;
        }

        private void countAlike(int level) {
            alike = level == last ? alike + 1 : 1;
            last = level;
        }

        private void takeFrameBit(int level) {
            if (place >= checkPlace) {
                checkRead = checkRead << 1 | level;
                return;
            }
            addToCheck(level);
            if (place < numberPlace) {
                takeHead(level);
            } else if (place < numberPlace + Frame.NUMBER_BITS) {
                takeNumber(level);
            } else {
                data |= (long) level << Frame.dataShift(place - numberPlace - Frame.NUMBER_BITS);
            }
        }

        private void addToCheck(int level) {
            int top = (check & CHECK_TOP) != 0 ? 1 : 0;
            check = check << 1 & CHECK_MASK;
            if (top != level) {
                check ^= CHECK_TAPS;
            }
        }

        private void takeHead(int level) {
            boolean inLow = place >= Frame.LOW_PLACE && place < Frame.LOW_PLACE + Frame.LOW_BITS;
            if (place == Frame.LONG_MARK_PLACE) {
                isLong = level == 1;
                numberPlace = isLong ? Frame.LONG_NUMBER_PLACE : Frame.SHORT_NUMBER_PLACE;
            } else if (place <= Frame.HIGH_BITS || isLong && inLow) {
                identifier = identifier << 1 | level;
            }
        }

        private void takeNumber(int level) {
            bytes = bytes << 1 | level;
            if (place == numberPlace + Frame.NUMBER_BITS - 1) {
                bytes = Math.min(bytes, Frame.BYTE_LIMIT);
                checkPlace = numberPlace + Frame.NUMBER_BITS + 8 * bytes;
            }
        }
    }

    /** One of those on the wire. */
    private static final class Node {
        static final int WANT_LIMIT = 4;

        private static final int OFF = 0;
        private static final int IDLE = 1;
        private static final int READING = 2;
        private static final int SENDING = 3;

        private static final int SEND_PENALTY = 8;
        private static final int RECEIVE_PENALTY = 1;
        private static final int SEND_COUNT_LIMIT = 255;
        private static final int LOSING_BITS = 2;

        final Frame lastReceived;
        int role;
        int sendCount;
        int receiveCount;
        int wants;
        int framesSent;
        int framesReceived;
        int lastFault;
        int fault;
        private final Frame[] wanted;
        private final Reader reader;
        private int sendingSlot;
        private int sent;

        Node() {
            lastReceived = new Frame();
            wanted = new Frame[WANT_LIMIT];
            for (int i = 0; i < WANT_LIMIT; i++) {
                wanted[i] = new Frame();
            }
            reader = new Reader();
            role = IDLE;
        }

        /** Wanted frames stand as they came, so that the slot of one being sent stays what it is. */
        int addWanted(boolean isLong, int identifier, long data, int bytes) {
            wanted[wants].become(isLong, identifier, data, bytes);
            wants++;
            return wants;
        }

        Frame offered() {
            return wanted[offeredSlot()];
        }

        boolean switchOn() {
            if (role != OFF) {
                return false;
            }
            role = IDLE;
            sendCount = 0;
            receiveCount = 0;
            return true;
        }

        boolean isAtWork() {
            return role == READING || role == SENDING;
        }

        void beginToSend() {
            if (role != OFF && wants > 0) {
                sendingSlot = offeredSlot();
                role = SENDING;
                reader.begin();
            }
        }

        int send() {
            sent = 1;
            if (role == SENDING) {
                sent = reader.nextOf(wanted[sendingSlot]);
            } else if (role == READING && reader.isAtAnswer() && reader.isCheckRight()) {
                sent = 0;
            }
            return sent;
        }

        void see(int level) {
            fault = NO_FAULT;
            if (role == SENDING) {
                compareWithSent(level);
            } else if (role == IDLE && level == 0) {
                role = READING;
                reader.begin();
            }
            if (isAtWork() && fault == NO_FAULT) {
                fault = reader.take(level);
            }
        }

        void breakOff() {
            if (fault != NO_FAULT) {
                lastFault = fault;
                countFault();
            }
            if (role != OFF) {
                role = sendCount > SEND_COUNT_LIMIT ? OFF : IDLE;
            }
        }

        void endFrame() {
            if (!isAtWork() || !reader.hasAll()) {
                return;
            }
            if (role == SENDING) {
                dropSent();
                framesSent++;
                sendCount = Math.max(sendCount - 1, 0);
            } else {
                reader.copyTo(lastReceived);
                framesReceived++;
                receiveCount = Math.max(receiveCount - 1, 0);
            }
            role = IDLE;
        }

        private int offeredSlot() {
            if (role == SENDING) {
                return sendingSlot;
            }
            int first = 0;
            for (int i = 1; i < wants; i++) {
                if (wanted[i].comesBefore(wanted[first])) {
                    first = i;
                }
            }
            return first;
        }

        private void compareWithSent(int level) {
            if (reader.isAtAnswer()) {
                fault = level == 1 ? ANSWER_FAULT : NO_FAULT;
            } else if (level != sent) {
                if (sent == 1 && mayLose()) {
                    role = READING;
                } else {
                    fault = LEVEL_FAULT;
                }
            }
        }

        private boolean mayLose() {
            int bitsToCome = wanted[sendingSlot].numberPlace - reader.place - 1;
            return bitsToCome > LOSING_BITS && !reader.isStuffedNext();
        }

        private void countFault() {
            if (role == SENDING) {
                sendCount += SEND_PENALTY;
            } else {
                receiveCount += RECEIVE_PENALTY;
            }
        }

        /** The object of the sent frame moves behind the others, to be used again. */
        private void dropSent() {
            Frame done = wanted[sendingSlot];
            for (int i = sendingSlot; i + 1 < wants; i++) {
                wanted[i] = wanted[i + 1];
            }
            wants--;
            wanted[wants] = done;
        }
    }
}
