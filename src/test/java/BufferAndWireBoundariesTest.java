/** Promises 1 to 12: each sentence that names a boundary, which stands above its test. */
public final class BufferAndWireBoundariesTest {
    private static final Object NO_INDEX = IndexOutOfBoundsException.class;
    private static final Object BAD_ARGUMENT = IllegalArgumentException.class;
    private static final Object BAD_STATE = IllegalStateException.class;

    // Promise 1: "Creates a line without faults, on which nothing was sent, and an empty dictionary."
    private static void testNewObject() {
        TelexReceiver x = new TelexReceiver();
        Check.due("P1 faults()", 0, x::faults);
        Check.due("P1 sent()", 0, x::sent);
        Check.due("P1 received()", 0, x::received);
        Check.due("P1 words()", 0, x::words);
        Check.due("P1 no code was sent", NO_INDEX, () -> x.sentCode(0));
        Check.due("P1 no code was received", NO_INDEX, () -> x.receivedCode(0));
        Check.due("P1 no word", NO_INDEX, () -> x.wordLetter(0, 0));
        Check.due("P1 no character", NO_INDEX, () -> x.printed(0));
        Check.due("P1 no segment", NO_INDEX, () -> x.segmentLength(0));
        Check.due("P1 no code is lost", 2, () -> Check.send(x, "1"));
    }

    // Promise 2: "Returns the new length of the buffer."
    private static void testAppendReturnsTheLength() {
        TelexReceiver x = new TelexReceiver();
        Check.due("P2 the first", 1, () -> x.append('k'));
        Check.due("P2 the second", 2, () -> x.append(' '));
        x.clearBuffer();
        Check.due("P2 behind clearBuffer()", 1, () -> x.append('@'));
        x.send();
        Check.due("P2 behind send(): characters, not codes", 1, () -> x.append('1'));
        Check.appendAll(x, "k".repeat(58));
        Check.due("P2 the last", 60, () -> x.append('#'));
    }

    // Promise 2: "Throws IllegalArgumentException if code is not one of these characters"
    private static void testAppendNoCharacter() {
        int[] impossible = {-1, 0, 1, 9, 11, 27, 30, 31, '$', '*', 'A', '`', '{', 127, 255,
            256 + 'a', 65536 + ' ', -65536 + '1', Integer.MIN_VALUE + '#', Integer.MAX_VALUE};
        TelexReceiver x = new TelexReceiver();
        for (int character : impossible) {
            Check.due("P2 append(" + character + ")", BAD_ARGUMENT, () -> x.append(character));
        }
        Check.due("P2 the buffer is empty", 0, x::clearBuffer);
    }

    // Promise 2: "Throws IllegalStateException if the buffer contains 60 characters"
    private static void testAppendToAFullBuffer() {
        TelexReceiver x = new TelexReceiver();
        Check.appendAll(x, "k".repeat(60));
        for (char character : "kz09. \n@#".toCharArray()) {
            Check.due("P2 append " + (int) character, BAD_STATE, () -> x.append(character));
        }
        x.send();
        Check.due("P2 behind send()", 1, () -> x.append('k'));
    }

    // Promise 3: "Empties the buffer." "Returns the length that it had."
    private static void testClearBuffer() {
        TelexReceiver x = new TelexReceiver();
        Check.due("P3 of 0", 0, x::clearBuffer);
        x.append('1');
        Check.due("P3 of 1 character with 2 codes", 1, x::clearBuffer);
        Check.due("P3 emptied", 0, x::codesToSend);
        Check.due("P3 of 0 again", 0, x::clearBuffer);
        Check.appendAll(x, "1a".repeat(30));
        Check.due("P3 of 60", 60, x::clearBuffer);
        Check.due("P3 60 emptied", BAD_STATE, x::send);
    }

    private static void toSend(int want, String text) {
        TelexReceiver x = new TelexReceiver();
        Check.appendAll(x, text);
        Check.due("P4 codesToSend() of " + text, want, x::codesToSend);
    }

    // Promise 4: "Returns the number of codes, including shifts; 0 if the buffer is empty."
    private static void testCodesToSend() {
        toSend(0, "");
        toSend(1, "k");
        toSend(2, "1");
        toSend(60, "k".repeat(60));
        toSend(61, "1".repeat(60));
        toSend(120, "1k".repeat(30));
        toSend(119, "k1".repeat(29) + "k.");
        TelexReceiver x = new TelexReceiver();
        Check.send(x, "1");
        Check.due("P4 of nothing, in figures", 0, x::codesToSend);
        x.append('k');
        Check.due("P4 a shift to letters is a code", 2, x::codesToSend);
        x.setFault(2, 0);
        x.setFault(3, 0);
        Check.due("P4 codes that get lost are sent", 2, x::codesToSend);
        Check.due("P4 nothing was sent by it", 2, x::sent);
    }

    // Promise 5: "Sends the buffer, and empties it." "Returns the number of codes that are received of it."
    private static void testSendReturnsWhatIsReceived() {
        TelexReceiver x = new TelexReceiver();
        Check.due("P5 one code", 1, () -> Check.send(x, "k"));
        Check.due("P5 emptied", 0, x::clearBuffer);
        Check.due("P5 with a shift", 2, () -> Check.send(x, "."));
        x.setFault(3, 0);
        Check.due("P5 the shift to letters is lost", 1, () -> Check.send(x, "k"));
        x.setFault(5, 0);
        Check.due("P5 all is lost", 0, () -> Check.send(x, "k"));
        Check.due("P5 the most codes of a buffer", 120, () -> Check.send(x, "1k".repeat(30)));
    }

    // Promise 5: "Throws IllegalStateException if the buffer is empty"
    private static void testSendOfNothing() {
        TelexReceiver x = new TelexReceiver();
        Check.due("P5 at first", BAD_STATE, x::send);
        Check.send(x, "k");
        Check.due("P5 behind send()", BAD_STATE, x::send);
        x.append('k');
        x.clearBuffer();
        Check.due("P5 behind clearBuffer()", BAD_STATE, x::send);
        Check.learn(x, "k");
        Check.due("P5 behind learn()", BAD_STATE, x::send);
    }

    // Promise 5: "Throws IllegalStateException if ... more than 200 codes would be sent in all"
    private static void testSendOfTooMany() {
        TelexReceiver x = new TelexReceiver();
        Check.sendInParts(x, "k".repeat(140));
        Check.appendAll(x, "1" + "2".repeat(59));
        Check.due("P5 60 characters with a shift are 201", BAD_STATE, x::send);
        x.clearBuffer();
        Check.due("P5 59 characters with a shift are 200", 60, () -> Check.send(x, "2".repeat(59)));
        x.append(' ');
        Check.due("P5 one more", BAD_STATE, x::send);
        x.undo();
        Check.due("P5 room again by undo()", 1, x::send);
        TelexReceiver y = new TelexReceiver();
        Check.send(y, "1k".repeat(30));
        Check.appendAll(y, "1k".repeat(20) + "1");
        Check.due("P5 120 and 82 codes", BAD_STATE, y::send);
        y.clearBuffer();
        Check.due("P5 120 and 80 codes", 80, () -> Check.send(y, "1k".repeat(20)));
    }

    // Promise 5: whether it is more than 200 codes depends on the shifts, and so on unshifting.
    private static void testUnshiftingCountsTo200() {
        TelexReceiver x = new TelexReceiver();
        Check.sendInParts(x, "k".repeat(196));
        Check.appendAll(x, "1 2");
        x.unshiftOnSpace(true);
        Check.due("P5 with unshifting 201", BAD_STATE, x::send);
        x.unshiftOnSpace(false);
        Check.due("P5 without unshifting 200", 4, x::send);
    }

    // Promise 6: "Sets a fault of the wire, in place of the one that was there."
    private static void testSetFaultInPlace() {
        TelexReceiver x = new TelexReceiver();
        x.setFault(0, 0);
        x.setFault(0, 5);
        x.setFault(1, 5);
        x.setFault(1, -1);
        Check.due("P6 one fault is left", 1, x::faults);
        Check.send(x, "kk");
        Check.due("P6 the last one counts", "27 11", () -> Check.receivedCodes(x));
    }

    // Promise 6: "Returns the previous fault; NONE if there was none."
    private static void testSetFaultReturnsThePrevious() {
        TelexReceiver x = new TelexReceiver();
        for (int index = 0; index <= 199; index += 199) {
            int at = index;
            Check.due("P6 none at " + at, -1, () -> x.setFault(at, 0));
            for (int fault = 1; fault <= 5; fault++) {
                int next = fault;
                Check.due("P6 previous " + (next - 1) + " at " + at, next - 1, () -> x.setFault(at, next));
            }
            Check.due("P6 previous 5 at " + at, 5, () -> x.setFault(at, -1));
            Check.due("P6 none again at " + at, -1, () -> x.setFault(at, 3));
        }
        Check.due("P6 none at 1", -1, () -> x.setFault(1, -1));
        Check.due("P6 none at 198", -1, () -> x.setFault(198, -1));
    }

    // Promise 6: "index: 0 to 199", "Throws IndexOutOfBoundsException if there is no such index"
    private static void testSetFaultIndex() {
        TelexReceiver x = new TelexReceiver();
        Check.due("P6 index 0", -1, () -> x.setFault(0, 1));
        Check.due("P6 index 199", -1, () -> x.setFault(199, 1));
        int[] none = {-1, 200, 201, Integer.MIN_VALUE, Integer.MAX_VALUE};
        for (int index : none) {
            Check.due("P6 index " + index, NO_INDEX, () -> x.setFault(index, -1));
        }
        Check.due("P6 two faults", 2, x::faults);
    }

    // Promise 6: "fault: 0 to 5, or NONE for no fault", "Throws IllegalArgumentException if fault is out of
    // range"
    private static void testSetFaultFault() {
        TelexReceiver x = new TelexReceiver();
        int[] none = {-2, 6, 7, 16, Integer.MIN_VALUE, Integer.MAX_VALUE};
        for (int fault : none) {
            Check.due("P6 fault " + fault, BAD_ARGUMENT, () -> x.setFault(3, fault));
        }
        Check.due("P6 fault 0", -1, () -> x.setFault(3, 0));
        Check.due("P6 fault 5", 0, () -> x.setFault(3, 5));
        Check.due("P6 fault NONE", 5, () -> x.setFault(3, TelexReceiver.NONE));
    }

    // Promise 7: "Returns the number of codes that were sent so far." Promise 8: "... received so far."
    private static void testSentAndReceived() {
        TelexReceiver x = new TelexReceiver();
        x.setFault(1, 0);
        x.setFault(2, 1);
        Check.appendAll(x, "k1");
        Check.due("P7 before send()", 0, x::sent);
        Check.due("P8 before send()", 0, x::received);
        x.send();
        Check.due("P7 with the shift and the lost code", 3, x::sent);
        Check.due("P8 without the lost code, with the changed one", 2, x::received);
        x.undo();
        Check.due("P7 behind undo()", 0, x::sent);
        Check.due("P8 behind undo()", 0, x::received);
        TelexReceiver most = new TelexReceiver();
        Check.sendInParts(most, "k".repeat(200));
        Check.due("P7 the most", 200, most::sent);
        Check.due("P8 the most", 200, most::received);
    }

    // Promise 9: "Throws IndexOutOfBoundsException if no code with this index was sent"
    private static void testSentCode() {
        TelexReceiver x = new TelexReceiver();
        x.append('k');
        Check.due("P9 index 0 before send()", NO_INDEX, () -> x.sentCode(0));
        x.setFault(0, 0);
        x.send();
        Check.due("P9 index 0, though it was lost", 11, () -> x.sentCode(0));
        Check.due("P9 index 1", NO_INDEX, () -> x.sentCode(1));
        Check.due("P9 index -1", NO_INDEX, () -> x.sentCode(-1));
        Check.send(x, "lm");
        Check.due("P9 index 2", 13, () -> x.sentCode(2));
        Check.due("P9 index 3", NO_INDEX, () -> x.sentCode(3));
        x.undo();
        Check.due("P9 index 1 behind undo()", NO_INDEX, () -> x.sentCode(1));
        Check.sendInParts(x, "k".repeat(198) + "z");
        Check.due("P9 index 199", 26, () -> x.sentCode(199));
        Check.due("P9 index 200", NO_INDEX, () -> x.sentCode(200));
    }

    // Promise 10: "number: 0 for the first code that was received, and so on", "Throws
    // IndexOutOfBoundsException if there is no such code"
    private static void testReceivedCode() {
        TelexReceiver x = new TelexReceiver();
        x.setFault(0, 0);
        Check.send(x, "k");
        Check.due("P10 number 0, the one code is lost", NO_INDEX, () -> x.receivedCode(0));
        Check.send(x, "lm");
        Check.due("P10 number 0", 12, () -> x.receivedCode(0));
        Check.due("P10 number 1", 13, () -> x.receivedCode(1));
        Check.due("P10 number 2, though 3 codes are sent", NO_INDEX, () -> x.receivedCode(2));
        Check.due("P10 number -1", NO_INDEX, () -> x.receivedCode(-1));
        x.undo();
        Check.due("P10 number 0 behind undo()", NO_INDEX, () -> x.receivedCode(0));
        TelexReceiver most = new TelexReceiver();
        Check.sendInParts(most, "k".repeat(199) + "z");
        Check.due("P10 number 199", 26, () -> most.receivedCode(199));
        Check.due("P10 number 200", NO_INDEX, () -> most.receivedCode(200));
    }

    // Promise 11: "Returns the shift of the sender."
    private static void testSenderShift() {
        TelexReceiver x = new TelexReceiver();
        Check.due("P11 at first", 0, x::senderShift);
        Check.send(x, "k1");
        Check.due("P11 behind the last of both shifts", 1, x::senderShift);
        Check.send(x, " \n");
        Check.due("P11 behind what needs none", 1, x::senderShift);
        Check.send(x, "1k");
        Check.due("P11 behind a letter", 0, x::senderShift);
        x.undo();
        Check.due("P11 behind undo()", 1, x::senderShift);
    }

    // Promise 12: "Returns the number of faults of the wire, for all indexes, also those at which a code was
    // sent already."
    private static void testFaults() {
        TelexReceiver x = new TelexReceiver();
        Check.due("P12 none", 0, x::faults);
        x.setFault(0, 0);
        Check.due("P12 a loss is a fault", 1, x::faults);
        x.setFault(199, 5);
        Check.due("P12 at the last index", 2, x::faults);
        Check.send(x, "k");
        Check.due("P12 at a code that was sent", 2, x::faults);
        x.setFault(0, 1);
        Check.due("P12 another one in its place", 2, x::faults);
        x.setFault(0, -1);
        x.setFault(1, -1);
        Check.due("P12 one less", 1, x::faults);
        x.setFault(199, -1);
        Check.due("P12 none again", 0, x::faults);
    }

    public static void main(String[] args) {
        testNewObject();
        testAppendReturnsTheLength();
        testAppendNoCharacter();
        testAppendToAFullBuffer();
        testClearBuffer();
        testCodesToSend();
        testSendReturnsWhatIsReceived();
        testSendOfNothing();
        testSendOfTooMany();
        testUnshiftingCountsTo200();
        testSetFaultInPlace();
        testSetFaultReturnsThePrevious();
        testSetFaultIndex();
        testSetFaultFault();
        testSentAndReceived();
        testSentCode();
        testReceivedCode();
        testSenderShift();
        testFaults();
        Check.finish();
    }
}
