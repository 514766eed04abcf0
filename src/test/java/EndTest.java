/** The end of a frame that goes well: SENT, RECEIVED, and the pause behind it. */
public final class EndTest {
    private static final Due DUE = new Due();

    public static void main(String[] args) {
        sentWithTheLastOne();
        receivedWithTheLastOne();
        notIfAnyNodeFindsAFault();
        sendingCountGoesDownToZero();
        receivingCountGoesDownToZero();
        pauseWhenNoneIsLeft();
        readerBehindASenderKeepsItBusy();
        whoHasEndedMayReadAnew();
        DUE.end();
    }

    /** "a sender has seen the last 1: its frame is SENT: it does not want it any more" */
    private static void sentWithTheLastOne() {
        SharedWire wire = Play.wanting(0, false, 3, 0, 0);
        wire.want(0, false, 4, 0, 0);
        wire.step(wire.tape(0) - 1, 0);
        DUE.equal("before it", Play.told(wire, 0), "3 0 0 2 0 0 0");
        wire.step(1, 0);
        DUE.equal("behind it", Play.told(wire, 0), "1 0 0 1 1 0 0");
        DUE.equal("the other one is left", Bits.tapeOf(wire, wire.tape(0)), Bits.onWire(false, 4, 0, 0));
        wire.step(3, 0);
        DUE.equal("in the pause", Play.told(wire, 0), "1 0 0 1 1 0 0");
    }

    /** "Each reader that has read the last 1 has RECEIVED the frame" */
    private static void receivedWithTheLastOne() {
        SharedWire wire = Play.wanting(0, false, 3, 0, 0);
        wire.step(wire.tape(0) - 1, 0);
        DUE.equal("before it", Play.told(wire, 1), "2 0 0 0 0 0 0");
        wire.step(1, 0);
        for (int node = 1; node < 4; node++) {
            DUE.equal("behind it, " + node, Play.told(wire, node), "1 0 0 0 0 1 0");
            DUE.equal("frame, " + node, Play.frame(wire, node), "3 0 0 0");
        }
        DUE.equal("not the sender", wire.node(0, Play.RECEIVED), 0);
    }

    /** "If no node found one": this goes for all that is said of the last 1. */
    private static void notIfAnyNodeFindsAFault() {
        int length = Bits.onWire(false, 3, 0, 0).length();
        SharedWire reader = Play.wanting(0, false, 3, 0, 0);
        reader.step(length - 1, 0);
        DUE.equal("level", reader.step(1, 4), 1);
        DUE.equal("not sent", Play.told(reader, 0), "1 0 0 1 0 0 0");
        DUE.equal("not received", Play.told(reader, 1), "1 0 0 0 0 0 0");
        DUE.equal("who found it", Play.told(reader, 2), "1 0 1 0 0 0 3");
        DUE.equal("broken", reader.wire(), 2);
        reader.step(17 + length, 0);
        DUE.equal("sent then", Play.told(reader, 0), "1 0 0 0 1 0 0");
        DUE.equal("received then", Play.told(reader, 2), "1 0 0 0 0 1 3");
        SharedWire sender = Play.wanting(0, false, 3, 0, 0);
        sender.step(length - 1, 0);
        sender.step(1, 1);
        DUE.equal("the sender found it", Play.told(sender, 0), "1 8 0 1 0 0 4");
        DUE.equal("nobody received", Play.told(sender, 3), "1 0 0 0 0 0 0");
    }

    /** "its count of sending is 1 less (if not 0)" */
    private static void sendingCountGoesDownToZero() {
        SharedWire wire = Play.wanting(0, false, 3, 0, 0);
        Play.failToSend(wire, 0, 1);
        for (int sent = 1; sent <= 10; sent++) {
            wire.step(wire.tape(0) + 3, 0);
            DUE.equal("sent " + sent, Play.told(wire, 0), "1 " + Math.max(0, 8 - sent) + " 0 0 " + sent + " 0 4");
            wire.want(0, false, 3, 0, 0);
        }
    }

    /** "its count of receiving is 1 less (if not 0)" */
    private static void receivingCountGoesDownToZero() {
        SharedWire wire = new SharedWire();
        wire.step(24, 2);
        wire.step(24, 2);
        DUE.equal("two faults", Play.told(wire, 1), "1 0 2 0 0 0 1");
        for (int received = 1; received <= 4; received++) {
            wire.want(0, false, 3, 0, 0);
            wire.step(wire.tape(0) + 3, 0);
            DUE.equal("received " + received, Play.told(wire, 1),
                    "1 0 " + Math.max(0, 2 - received) + " 0 0 " + received + " 1");
        }
        SharedWire other = new SharedWire();
        other.step(24, 1);
        other.want(0, false, 3, 0, 0);
        other.step(other.tape(0), 0);
        DUE.equal("sending leaves the count of receiving", Play.told(other, 0), "1 0 1 0 1 0 1");
    }

    /** "When there is no sender and no reader any more, a pause begins with the next step." */
    private static void pauseWhenNoneIsLeft() {
        SharedWire wire = Play.wanting(0, false, 3, 0, 0);
        int length = wire.tape(0);
        for (int i = 1; i < length; i++) {
            wire.step(1, 0);
            DUE.equal("busy after " + i, wire.wire(), 1);
        }
        StringBuilder states = new StringBuilder();
        for (int i = 0; i < 4; i++) {
            wire.step(1, 0);
            states.append(wire.wire());
        }
        DUE.equal("pause, then rest", states.toString(), "3330");
    }

    /** Node 1 sees the frame two steps later than it is sent, and its answer is hidden from the others. */
    private static void readerBehindASenderKeepsItBusy() {
        String frame = Bits.onWire(false, 0b10101010101, 0, 0);
        int answer = frame.length() - 9;
        SharedWire wire = Play.wanting(0, false, 0b10101010101, 0, 0);
        String late = "11" + frame;
        String levels = Bits.flipped(Bits.flipped(frame, answer), answer + 2) + "11";
        for (int i = 0; i < late.length(); i++) {
            int forLate = late.charAt(i) != levels.charAt(i) ? 2 : 0;
            DUE.equal("level " + i, wire.step(1, i == answer + 2 ? 13 : forLate), levels.charAt(i) - '0');
            if (i >= frame.length() - 1 && i < late.length() - 1) {
                DUE.equal("sent", Play.told(wire, 0), "1 0 0 0 1 0 0");
                DUE.equal("received by 2", Play.told(wire, 2), "1 0 0 0 0 1 0");
                DUE.equal("1 reads still", Play.told(wire, 1), "2 0 0 0 0 0 0");
                DUE.equal("busy still", wire.wire(), 1);
            }
        }
        DUE.equal("received by 1", Play.told(wire, 1), "1 0 0 0 0 1 0");
        DUE.equal("pause", wire.wire(), 3);
    }

    /** Nobody sends; node 1 reads two steps behind node 0, which then sees a 0 once more. */
    private static void whoHasEndedMayReadAnew() {
        String frame = Bits.onWire(false, 0b10101010101, 0, 0);
        String late = "11" + frame;
        int answer = frame.length() - 9;
        SharedWire wire = new SharedWire();
        for (int i = 0; i < frame.length(); i++) {
            char level = i == answer || i == answer + 2 ? '0' : '1';
            int forFirst = frame.charAt(i) != level ? 1 : 0;
            int forLate = late.charAt(i) != level ? 2 : 0;
            int forOthers = level == '0' ? 12 : 0;
            wire.step(1, forFirst | forLate | forOthers);
        }
        DUE.equal("0 has it", Play.told(wire, 0), "1 0 0 0 0 1 0");
        DUE.equal("1 has not", Play.told(wire, 1), "2 0 0 0 0 0 0");
        DUE.equal("busy", wire.wire(), 1);
        wire.want(0, false, 1, 0, 0);
        wire.step(1, 1);
        DUE.equal("0 reads anew, and does not send", Play.told(wire, 0), "2 0 0 1 0 1 0");
        wire.step(1, 0);
        DUE.equal("1 has it", Play.told(wire, 1), "1 0 0 0 0 1 0");
        DUE.equal("busy with 0", wire.wire(), 1);
        wire.step(5, 0);
        DUE.equal("0 finds its fault", Play.told(wire, 0), "1 0 1 1 0 1 1");
    }
}
