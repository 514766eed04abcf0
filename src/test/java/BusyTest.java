/** A step while the wire is BUSY: who sends, who loses, who reads, and which faults senders find. */
public final class BusyTest {
    private static final Due DUE = new Due();
    private static final String SENDS = "3 0 0 1 0 0 0";
    private static final String LOST = "2 0 0 1 0 0 0";
    private static final String LEVEL_FAULT = "1 8 0 1 0 0 4";
    private static final String ANSWER_FAULT = "1 8 0 1 0 0 5";

    public static void main(String[] args) {
        answerIsOthers();
        besidesTheAnswer();
        loserOfShortIdentifiers();
        loserOfLongIdentifiers();
        stuffedOnesAreNotLost();
        everyPlaceOfAFrame();
        loserHasReadWhatItSent();
        threeFindOutWhoGoesOn();
        sameFramesGoTogether();
        sameIdentifierOtherData();
        readersAnswerIfTheCheckIsRight();
        noAnswerIfNoCheckIsRight();
        neitherReadsFromTheNextZero();
        DUE.end();
    }

    /** A wire where node 0 has sent all before this bit, then one step with these nodes disturbed. */
    private static SharedWire at(int place, int disturbed, boolean isLong, int identifier, long data, int n) {
        SharedWire wire = Play.wanting(0, isLong, identifier, data, n);
        Play.pass(wire, place);
        wire.step(1, disturbed);
        return wire;
    }

    private static void sender(String what, int place, boolean isLong, int identifier, String due) {
        SharedWire wire = at(place, 1, isLong, identifier, 0x5a, 1);
        DUE.equal(what, Play.told(wire, 0), due);
        DUE.equal(what + ", wire", wire.wire(), due.equals(LOST) ? 1 : 2);
    }

    /**
     * "a sender sends the next bit of its frame on the wire, 1 for the answer. If it sees another one: at the
     * answer, that is right (if it sees 1 there, it is fault 5)"
     */
    private static void answerIsOthers() {
        int answer = Bits.onWire(false, 5, 0x5a, 1).length() - 9;
        SharedWire sees0 = at(answer, 0, false, 5, 0x5a, 1);
        DUE.equal("sees 0", Play.told(sees0, 0), SENDS);
        DUE.equal("sees 1", Play.told(at(answer, 1, false, 5, 0x5a, 1), 0), ANSWER_FAULT);
        SharedWire alone = new SharedWire();
        for (int node = 0; node < 4; node++) {
            alone.want(node, false, 5, 0x5a, 1);
        }
        alone.step(answer, 0);
        DUE.equal("no reader, no answer", alone.step(1, 4), 1);
        DUE.equal("no answer seen", Play.told(alone, 0), ANSWER_FAULT);
        DUE.equal("one seen that was none", Play.told(alone, 2), "1 0 0 1 0 0 0");
    }

    /** "otherwise it is fault 4": on both sides of the answer, and to the last 1 */
    private static void besidesTheAnswer() {
        int length = Bits.onWire(false, 5, 0x5a, 1).length();
        for (int place = length - 11; place < length; place++) {
            sender("bit " + place, place, false, 5, place == length - 9 ? ANSWER_FAULT : LEVEL_FAULT);
        }
    }

    /** "more than two bits ... were to come before the number of bytes": of a short one up to bit 11 */
    private static void loserOfShortIdentifiers() {
        sender("bit 0, the first 0", 0, false, 0b10101010101, LEVEL_FAULT);
        sender("bit 1, a 1", 1, false, 0b10101010101, LOST);
        sender("bit 2, a 0", 2, false, 0b10101010101, LEVEL_FAULT);
        sender("bit 10, a 0", 10, false, 0b10101010101, LEVEL_FAULT);
        sender("bit 10, a 1", 10, false, 0b01010101010, LOST);
        sender("bit 11, a 1", 11, false, 0b10101010101, LOST);
        sender("bit 11, a 0", 11, false, 0b01010101010, LEVEL_FAULT);
        for (int place = 12; place < 15; place++) {
            sender("bit " + place + ", of 0 0 0", place, false, 0b10101010101, LEVEL_FAULT);
        }
        sender("behind 0 0 0 0 0, one stuffed in", 17, false, 0b10101010101, LEVEL_FAULT);
        sender("a 1 of the number of bytes", 19, false, 0b10101010101, LEVEL_FAULT);
        sender("a 1 of the bytes", 21, false, 0b10101010101, LEVEL_FAULT);
    }

    /** The same of a long one: up to bit 31, with the 1 1 between. */
    private static void loserOfLongIdentifiers() {
        int odd = 0b10101010101 << 18 | 0b010101010101010101;
        int even = 0b01010101010 << 18 | 0b101010101010101010;
        sender("bit 11, a 1", 11, true, odd, LOST);
        sender("bit 12, the 1", 12, true, odd, LOST);
        sender("bit 13, the other 1", 13, true, odd, LOST);
        sender("bit 14, a 0", 14, true, odd, LEVEL_FAULT);
        sender("bit 14, a 1", 14, true, even, LOST);
        sender("bit 30, a 1", 30, true, even, LOST);
        sender("bit 31, a 1", 31, true, odd, LOST);
        sender("bit 31, a 0", 31, true, even, LEVEL_FAULT);
        for (int place = 32; place < 35; place++) {
            sender("bit " + place + ", of 0 0 0", place, true, odd, LEVEL_FAULT);
        }
        sender("behind 0 0 0 0 0, one stuffed in", 37, true, odd, LEVEL_FAULT);
        sender("a 1 of the number of bytes", 39, true, odd, LEVEL_FAULT);
    }

    /** "if it sent 1, not as one stuffed in"; "(those stuffed in not counted)" */
    private static void stuffedOnesAreNotLost() {
        sender("a 0 before the 1 stuffed in", 4, false, 0b00001101010, LEVEL_FAULT);
        sender("the 1 stuffed in", 5, false, 0b00001101010, LEVEL_FAULT);
        sender("a 1 behind it", 6, false, 0b00001101010, LOST);
        sender("a 1 before the 0 stuffed in", 6, false, 0b01111110101, LOST);
        sender("the 0 stuffed in", 7, false, 0b01111110101, LEVEL_FAULT);
        sender("a 1 behind it", 8, false, 0b01111110101, LOST);
        sender("the last 1, two stuffed in before it", 13, false, 0b00000000001, LOST);
        sender("0 0 0 behind it", 14, false, 0b00000000001, LEVEL_FAULT);
        sender("the last 1 of a long one, five stuffed in before it", 36, true, 1, LOST);
    }

    /** Frames of nothing but 0 or 1 and others, disturbed at every place. */
    private static void everyPlaceOfAFrame() {
        int[][] frames = {{0, 0b11111011111}, {1, 0x1f7dbeef}, {0, 0}, {1, 0}, {0, 2047}, {1, 536870911}};
        for (int[] frame : frames) {
            boolean isLong = frame[0] == 1;
            String bits = Bits.onWire(isLong, frame[1], 0x5a, 1);
            int identifierEnd = Bits.stuffed(Bits.head(isLong, frame[1]).substring(0, isLong ? 32 : 12)).length();
            for (int place = 0; place < bits.length(); place++) {
                boolean mayLose = bits.charAt(place) == '1' && place < identifierEnd && !isStuffed(bits, place);
                String fault = place == bits.length() - 9 ? ANSWER_FAULT : LEVEL_FAULT;
                sender("frame " + frame[1] + " at " + place, place, isLong, frame[1], mayLose ? LOST : fault);
            }
        }
    }

    /** Only for bits before the delimiter. */
    private static boolean isStuffed(String bits, int place) {
        return Bits.endsAlike(bits.substring(0, place));
    }

    /** "it LOSES, and is a reader from there on (that has read what it sent up to there, and this 0)" */
    private static void loserHasReadWhatItSent() {
        int[] identifiers = {0, 1, 0b10000010000, 0b01111101110, 0b10101010100, 0b00001000010, 2046};
        for (int identifier : identifiers) {
            for (int bit = 0; bit < 11; bit++) {
                if ((identifier >> bit & 1) == 0) {
                    loses(false, identifier, false, identifier | 1 << bit, 12 - 1 - bit);
                    loses(false, identifier, true, (identifier | 1 << bit) << 18, 12 - 1 - bit);
                }
            }
            loses(false, identifier, true, identifier << 18 | 99, 12);
            for (int bit = 0; bit < 18; bit++) {
                loses(true, identifier << 18, true, identifier << 18 | 1 << bit, 32 - 1 - bit);
            }
        }
    }

    private static void loses(boolean isLong, int identifier, boolean loserIsLong, int loser, int plainPlace) {
        SharedWire wire = Play.wanting(0, loserIsLong, loser, -1, 2);
        wire.want(1, isLong, identifier, 0x1234, 2);
        String what = loser + " against " + identifier;
        int place = Bits.stuffed(Bits.head(isLong, identifier).substring(0, plainPlace + 1)).length();
        Play.pass(wire, place - 1);
        DUE.equal(what + ", before", Play.told(wire, 0), SENDS);
        wire.step(1, 0);
        DUE.equal(what + ", lost", Play.told(wire, 0), LOST);
        DUE.equal(what + ", the other", Play.told(wire, 1), SENDS);
        wire.step(wire.tape(1) - place, 0);
        DUE.equal(what + ", received", Play.frame(wire, 0), identifier + (isLong ? " 1" : " 0") + " 2 " + 0x1234);
        DUE.equal(what + ", told", Play.told(wire, 0), "1 0 0 1 0 1 0");
        wire.step(4, 0);
        DUE.equal(what + ", begins anew", wire.node(0, Play.ROLE), 3);
    }

    private static void threeFindOutWhoGoesOn() {
        SharedWire wire = Play.wanting(0, false, 0b10101010101, 0, 1);
        wire.want(1, false, 0b10101010100, 1, 1);
        wire.want(2, false, 0b10101110100, 2, 1);
        wire.step(6, 0);
        DUE.equal("before they differ", wire.node(2, Play.ROLE), 3);
        wire.step(1, 0);
        DUE.equal("2 loses", Play.told(wire, 2), LOST);
        wire.step(4, 0);
        DUE.equal("0 goes on", Play.told(wire, 0), SENDS);
        wire.step(1, 0);
        DUE.equal("0 loses with the last bit", Play.told(wire, 0), LOST);
        DUE.equal("1 goes on", Play.told(wire, 1), SENDS);
    }

    private static void sameFramesGoTogether() {
        SharedWire wire = Play.wanting(0, true, 99, 7, 1);
        wire.want(2, true, 99, 7, 1);
        wire.step(wire.tape(0), 0);
        DUE.equal("0 sent", Play.told(wire, 0), "1 0 0 0 1 0 0");
        DUE.equal("2 sent", Play.told(wire, 2), "1 0 0 0 1 0 0");
        DUE.equal("1 received one", Play.told(wire, 1), "1 0 0 0 0 1 0");
    }

    /** Behind the identifier nobody loses: who sent 1 finds the fault, with the number of bytes as with the bytes. */
    private static void sameIdentifierOtherData() {
        differ("the first bit of the bytes", 0xff, 1, 0x7f, 1);
        differ("the last bit of the bytes", 0x55, 1, 0x54, 1);
        differ("the first bit of the number", 0, 8, 0, 7);
        differ("the last bit of the number", 0, 7, 0, 6);
    }

    private static void differ(String what, long data, int n, long otherData, int otherN) {
        SharedWire wire = Play.wanting(0, false, 0b10101010101, data, n);
        wire.want(1, false, 0b10101010101, otherData, otherN);
        String bits = Bits.onWire(false, 0b10101010101, data, n);
        String others = Bits.onWire(false, 0b10101010101, otherData, otherN);
        int place = 0;
        while (bits.charAt(place) == others.charAt(place)) {
            place++;
        }
        wire.step(place, 0);
        DUE.equal(what + ", both send", Play.told(wire, 0) + Play.told(wire, 1), SENDS + SENDS);
        DUE.equal(what + ", level", wire.step(1, 0), 0);
        DUE.equal(what + ", who sent 1", Play.told(wire, 0), LEVEL_FAULT);
        DUE.equal(what + ", who sent 0", Play.told(wire, 1), "1 0 0 1 0 0 0");
        DUE.equal(what + ", a reader", Play.told(wire, 2), "1 0 0 0 0 0 0");
        DUE.equal(what + ", wire", wire.wire(), 2);
    }

    /** "A reader sends 1, but 0 at the answer, if the check is right" */
    private static void readersAnswerIfTheCheckIsRight() {
        String bits = Bits.onWire(false, 0b10101010101, 0x5a5a, 2);
        int answer = bits.length() - 9;
        SharedWire wire = Play.wanting(0, false, 0b10101010101, 0x5a5a, 2);
        wire.step(25, 0);
        wire.step(1, 2 + 4);
        Play.pass(wire, answer - 26);
        DUE.equal("one of three answers", wire.step(1, 0), 0);
        DUE.equal("the sender is content", Play.told(wire, 0), SENDS);
        DUE.equal("who has a wrong check goes on", Play.told(wire, 1), "2 0 0 0 0 0 0");
        wire.step(1, 0);
        DUE.equal("but not behind the end of it", Play.told(wire, 1), "1 0 1 0 0 0 2");
        DUE.equal("the other one too", Play.told(wire, 2), "1 0 1 0 0 0 2");
        DUE.equal("who has a right check", Play.told(wire, 3), "1 0 0 0 0 0 0");
        SharedWire lone = new SharedWire();
        Play.feed(lone, 1, bits.substring(0, answer), -1);
        DUE.equal("a reader answers though nobody sends", Play.levels(lone, 2), "01");
    }

    private static void noAnswerIfNoCheckIsRight() {
        String bits = Bits.onWire(false, 0b10101010101, 0x5a5a, 2);
        int answer = bits.length() - 9;
        SharedWire wire = Play.wanting(0, false, 0b10101010101, 0x5a5a, 2);
        wire.step(25, 0);
        wire.step(1, 14);
        Play.pass(wire, answer - 26);
        DUE.equal("none of three answers", wire.step(1, 0), 1);
        DUE.equal("the sender", Play.told(wire, 0), ANSWER_FAULT);
        DUE.equal("a reader has not come to its fault", Play.told(wire, 1), "1 0 0 0 0 0 0");
    }

    /** "A node that is on, and is neither, sends 1; if it sees 0, it is a reader who has read that." */
    private static void neitherReadsFromTheNextZero() {
        SharedWire wire = Play.wanting(0, false, 0b11111011111, 0, 0);
        wire.step(1, 8);
        DUE.equal("3 missed the first bit", wire.node(3, Play.ROLE), 1);
        wire.step(5, 0);
        DUE.equal("3 sees five 1", wire.node(3, Play.ROLE), 1);
        wire.step(1, 8);
        DUE.equal("3 sees a 0 as 1", wire.node(3, Play.ROLE), 1);
        wire.step(1, 0);
        DUE.equal("3 sees the next 0", wire.node(3, Play.ROLE), 2);
        wire.step(5, 0);
        DUE.equal("it reads 0 1 1 1 1 1", Play.told(wire, 3), "2 0 0 0 0 0 0");
        SharedWire seesOne = Play.wanting(0, false, 0b11111011111, 0, 0);
        seesOne.step(1, 8);
        seesOne.step(1, 8);
        DUE.equal("3 sees a 1 as 0", seesOne.node(3, Play.ROLE), 2);
    }
}
