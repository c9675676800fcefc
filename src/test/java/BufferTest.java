/** Promises 2 to 4: the buffer. */
public final class BufferTest {
    private static final Object BAD_CHARACTER = IllegalArgumentException.class;
    private static final Object FULL = IllegalStateException.class;
    private static final String POSSIBLE = "abcdefghijklmnopqrstuvwxyz1234567890.,:;?!'()/-+=&%\" \n@#";

    private static void testEachCharacter() {
        for (int character = -200; character < 400; character++) {
            int tried = character;
            TelexReceiver x = new TelexReceiver();
            Object want = tried >= 0 && POSSIBLE.indexOf(tried) >= 0 ? (Object) 1 : BAD_CHARACTER;
            Check.due("P2 append(" + tried + ")", want, () -> x.append(tried));
        }
        TelexReceiver x = new TelexReceiver();
        int[] far = {65536 + 'a', 65536 + '1', 65536 + ' ', 65536 * 7 + '"', 256 + '.', 128 + '%',
            Integer.MAX_VALUE, Integer.MIN_VALUE, Integer.MIN_VALUE + '1', 0x10000, 0x10FFFF};
        for (int character : far) {
            Check.due("P2 append(" + character + ")", BAD_CHARACTER, () -> x.append(character));
        }
        Check.due("P2 nothing was appended", 0, x::clearBuffer);
    }

    private static void testSixty() {
        TelexReceiver x = new TelexReceiver();
        for (int length = 1; length <= 60; length++) {
            Check.due("P2 append at " + length, length, () -> x.append('#'));
        }
        Check.due("P2 append the 61st", FULL, () -> x.append('#'));
        Check.due("P2 append a wrong one to a full buffer", BAD_CHARACTER, () -> x.append('A'));
        Check.due("P3 clearBuffer() of a full buffer", 60, x::clearBuffer);
        Check.due("P2 append afterwards", 1, () -> x.append('b'));
    }

    private static void testClear() {
        TelexReceiver x = new TelexReceiver();
        Check.due("P3 clearBuffer() of an empty one", 0, x::clearBuffer);
        Check.appendAll(x, "we 1");
        Check.due("P3 clearBuffer()", 4, x::clearBuffer);
        Check.due("P3 clearBuffer() again", 0, x::clearBuffer);
        Check.due("P3 nothing to send", 0, x::codesToSend);
        Check.due("P3 is not undoable", 0, x::savedStates);
    }

    private static void toSend(int want, String text) {
        TelexReceiver x = new TelexReceiver();
        Check.appendAll(x, text);
        Check.due("P4 codesToSend() of " + text, want, x::codesToSend);
        Check.due("P4 again", want, x::codesToSend);
        Check.due("P4 nothing was sent", 0, x::sent);
        Check.due("P4 the shift of the sender", 0, x::senderShift);
        Check.due("P4 is what send() sends", want, x::send);
        Check.due("P4 sent", want, x::sent);
    }

    private static void testCodesToSend() {
        toSend(1, "a");
        toSend(2, "1");
        toSend(3, "12");
        toSend(4, "a1\n");
        toSend(5, "a1b");
        toSend(7, "a1 b ");
        toSend(1, "@");
        toSend(2, "#");
        toSend(4, "#@");
        toSend(5, "@#b");
        toSend(2, " \n");
        toSend(5, "1 2#");
        toSend(120, "1a1a1a1a1a1a1a1a1a1a1a1a1a1a1a1a1a1a1a1a1a1a1a1a1a1a1a1a1a1a");
    }

    private static void testCodesToSendBehindOthers() {
        TelexReceiver x = new TelexReceiver();
        Check.send(x, "1");
        Check.appendAll(x, "2 3");
        Check.due("P4 in figures already", 3, x::codesToSend);
        x.unshiftOnSpace(true);
        Check.due("P4 with unshifting a space costs a shift", 4, x::codesToSend);
        x.clearBuffer();
        Check.appendAll(x, " a");
        Check.due("P4 with unshifting a space spares a shift", 2, x::codesToSend);
        x.clearBuffer();
        Check.appendAll(x, "\na");
        Check.due("P4 a line break does not unshift", 3, x::codesToSend);
    }

    private static void testMoreThanCanBeSent() {
        TelexReceiver x = new TelexReceiver();
        for (int i = 0; i < 60; i++) {
            x.append(i % 2 == 0 ? '1' : 'a');
        }
        x.send();
        for (int i = 0; i < 60; i++) {
            x.append(i % 2 == 0 ? '1' : 'a');
        }
        Check.due("P4 more than send() could send", 120, x::codesToSend);
    }

    public static void main(String[] args) {
        testEachCharacter();
        testSixty();
        testClear();
        testCodesToSend();
        testCodesToSendBehindOthers();
        testMoreThanCanBeSent();
        Check.finish();
    }
}
