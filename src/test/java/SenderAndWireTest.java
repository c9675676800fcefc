/** Promises 5 to 12: sender and wire. */
public final class SenderAndWireTest {
    private static final Object NO_INDEX = IndexOutOfBoundsException.class;
    private static final Object BAD_ARGUMENT = IllegalArgumentException.class;
    private static final Object BAD_STATE = IllegalStateException.class;

    private static void codes(String want, String text) {
        TelexReceiver x = new TelexReceiver();
        Check.send(x, text);
        Check.due("P5, P9 codes of " + text, want, () -> Check.sentCodes(x));
        Check.due("P5, P10 received codes of " + text, want, () -> Check.receivedCodes(x));
    }

    private static void testCodes() {
        codes("1 2 3 4 5 6 7 8 9 10 11 12 13 14 15 16 17 18 19 20 21 22 23 24 25 26", "abcdefghijklmnopqrstuvwxyz");
        codes("30 1 2 3 4 5 6 7 8 9 10", "1234567890");
        codes("30 11 12 13 14 15 16 17 18 19 20 21 22 23 24 25 26", ".,:;?!'()/-+=&%\"");
        codes("27 28 29 30 29 27 28 31 29", " \n@# \n@");
        codes("30 1 27 2 31 1 27 2", "1 2a b");
    }

    private static void testSend() {
        TelexReceiver x = new TelexReceiver();
        Check.due("P5 send() of nothing", BAD_STATE, x::send);
        Check.due("P5 nothing is saved", 0, x::savedStates);
        Check.appendAll(x, "we 2");
        Check.due("P5 send()", 5, x::send);
        Check.due("P5 the buffer is empty", 0, x::clearBuffer);
        Check.due("P5 is undoable", 1, x::savedStates);
        Check.due("P7 sent()", 5, x::sent);
        Check.due("P8 received()", 5, x::received);
        Check.due("P11 senderShift()", 1, x::senderShift);
        Check.appendAll(x, "3a");
        Check.due("P5 send() further", 3, x::send);
        Check.due("P9 codes", "23 5 27 30 2 3 31 1", () -> Check.sentCodes(x));
        Check.due("P11 senderShift() again", 0, x::senderShift);
        Check.due("P9 behind the last", NO_INDEX, () -> x.sentCode(8));
        Check.due("P9 before the first", NO_INDEX, () -> x.sentCode(-1));
        Check.due("P9 far off", NO_INDEX, () -> x.sentCode(Integer.MAX_VALUE));
        Check.due("P10 behind the last", NO_INDEX, () -> x.receivedCode(8));
        Check.due("P10 before the first", NO_INDEX, () -> x.receivedCode(-1));
        Check.due("P10 far off", NO_INDEX, () -> x.receivedCode(Integer.MIN_VALUE));
    }

    private static void sendMany(TelexReceiver x, int count) {
        for (int i = 0; i < count; i++) {
            x.append('a');
        }
        x.send();
    }

    private static void testTwoHundred() {
        TelexReceiver x = new TelexReceiver();
        sendMany(x, 60);
        sendMany(x, 60);
        sendMany(x, 60);
        sendMany(x, 18);
        Check.appendAll(x, "1b");
        Check.due("P5 send() of 202 codes in all", BAD_STATE, x::send);
        Check.due("P5 the buffer stays", 2, x::clearBuffer);
        Check.due("P5 nothing was sent", 198, x::sent);
        Check.due("P5 nothing was saved", 4, x::savedStates);
        Check.due("P5 the shift stays", 0, x::senderShift);
        Check.appendAll(x, "aaa");
        Check.due("P5 send() of 201 codes in all", BAD_STATE, x::send);
        x.clearBuffer();
        x.setFault(199, 1);
        Check.appendAll(x, "1");
        Check.due("P5 send() of 200 codes in all", 2, x::send);
        Check.due("P7 sent()", 200, x::sent);
        Check.due("P9 the last code", 1, () -> x.sentCode(199));
        Check.due("P9 no code 200", NO_INDEX, () -> x.sentCode(200));
        Check.due("P10 the last code was changed", 0, () -> x.receivedCode(199));
        Check.appendAll(x, "a");
        Check.due("P5 send() of one more", BAD_STATE, x::send);
        x.clearBuffer();
        Check.due("P5 send() of nothing", BAD_STATE, x::send);
    }

    private static void testFaults() {
        TelexReceiver x = new TelexReceiver();
        for (int fault = 0; fault <= 5; fault++) {
            int set = fault;
            Check.due("P6 setFault(" + set + ")", -1, () -> x.setFault(set, set));
        }
        Check.due("P12 faults()", 6, x::faults);
        Check.appendAll(x, "aaaaaaa");
        Check.due("P5 one code is lost", 6, x::send);
        Check.due("P9 codes", "1 1 1 1 1 1 1", () -> Check.sentCodes(x));
        Check.due("P10 codes", "0 3 5 9 17 1", () -> Check.receivedCodes(x));
        Check.due("P8 received()", 6, x::received);
        Check.due("P7 sent()", 7, x::sent);
        Check.due("P6 a fault in place of another", 0, () -> x.setFault(0, 5));
        Check.due("P6 the same once more", 5, () -> x.setFault(0, 5));
        Check.due("P6 no fault any more", 5, () -> x.setFault(0, -1));
        Check.due("P6 none was there", -1, () -> x.setFault(0, TelexReceiver.NONE));
        Check.due("P12 faults(), at codes sent already too", 5, x::faults);
        Check.due("P10 what was received stays", "0 3 5 9 17 1", () -> Check.receivedCodes(x));
        Check.due("P12 a fault at the end", -1, () -> x.setFault(199, 0));
        Check.due("P12 faults()", 6, x::faults);
    }

    private static void testBits() {
        int[] bits = {1, 2, 4, 8, 16};
        for (int fault = 1; fault <= 5; fault++) {
            int set = fault;
            TelexReceiver x = new TelexReceiver();
            x.setFault(0, set);
            x.setFault(1, set);
            Check.send(x, "1");
            Check.due("P6 fault " + set + " of 30", 30 ^ bits[set - 1], () -> x.receivedCode(0));
            Check.due("P6 fault " + set + " of 1", 1 ^ bits[set - 1], () -> x.receivedCode(1));
            Check.due("P11 the sender's shift is of the codes sent", 1, x::senderShift);
        }
    }

    private static void testWrongFaults() {
        TelexReceiver x = new TelexReceiver();
        Check.due("P6 index 200", NO_INDEX, () -> x.setFault(200, 0));
        Check.due("P6 index -1", NO_INDEX, () -> x.setFault(-1, 0));
        Check.due("P6 index far off", NO_INDEX, () -> x.setFault(Integer.MIN_VALUE, 0));
        Check.due("P6 fault 6", BAD_ARGUMENT, () -> x.setFault(0, 6));
        Check.due("P6 fault -2", BAD_ARGUMENT, () -> x.setFault(199, -2));
        Check.due("P6 fault far off", BAD_ARGUMENT, () -> x.setFault(199, Integer.MAX_VALUE));
        Check.due("P6 both wrong", NO_INDEX, () -> x.setFault(200, 6));
        Check.due("P6 nothing is saved", 0, x::savedStates);
        Check.due("P12 no faults", 0, x::faults);
        x.setFault(7, -1);
        Check.due("P6 is undoable even without a change", 1, x::savedStates);
    }

    private static void testSenderShift() {
        TelexReceiver x = new TelexReceiver();
        Check.send(x, "#");
        Check.due("P11 after a bell", 1, x::senderShift);
        Check.send(x, " \n");
        Check.due("P11 after a space", 1, x::senderShift);
        x.unshiftOnSpace(true);
        Check.due("P11 unshifting itself changes nothing", 1, x::senderShift);
        Check.send(x, "\n");
        Check.due("P11 after a line break with unshifting", 1, x::senderShift);
        Check.send(x, " ");
        Check.due("P11 after a space with unshifting", 0, x::senderShift);
        Check.send(x, "1 2 a");
        Check.due("P9 shifts with unshifting", "30 29 27 28 28 27 30 1 27 30 2 27 1", () -> Check.sentCodes(x));
        Check.send(x, "1");
        Check.send(x, "@");
        Check.due("P11 after a question", 0, x::senderShift);
        x.setFault(x.sent(), 0);
        Check.send(x, "!");
        Check.due("P11 a lost shift is a shift of the sender", 1, x::senderShift);
        Check.due("P11 but none of the receiver", 0, x::receiverShift);
    }

    public static void main(String[] args) {
        testCodes();
        testSend();
        testTwoHundred();
        testFaults();
        testBits();
        testWrongFaults();
        testSenderShift();
        Check.finish();
    }
}
