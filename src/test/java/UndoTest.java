/** Promises 33 to 35, and what the terms "Undo" and "Exceptions" say. */
public final class UndoTest {
    private static final Object BAD_STATE = IllegalStateException.class;

    private static void testUndoOfEachMethod() {
        TelexReceiver x = new TelexReceiver();
        Check.due("P33 undo() of nothing", BAD_STATE, x::undo);
        Check.learn(x, "we");
        Check.learn(x, "you");
        x.setFault(1, 3);
        Check.send(x, "we 1");
        for (int left = 3; left >= 0; left--) {
            Check.due("P33 left", left, x::undo);
        }
        Check.due("P33 all undone", new TelexReceiver().digest(), x::digest);
        Check.learn(x, "we");
        Check.learn(x, "you");
        x.setFault(1, 3);
        Check.send(x, "we 1");
        long before = x.digest();

        Check.send(x, "you.\n@");
        x.undo();
        Check.due("P33 send", before, x::digest);
        Check.due("P33 send: sent()", 5, x::sent);
        Check.due("P33 send: senderShift()", 1, x::senderShift);
        x.setFault(1, 0);
        x.undo();
        Check.due("P33 setFault: the fault", 3, () -> x.setFault(1, 3));
        x.undo();
        x.setFault(150, 2);
        x.undo();
        Check.due("P33 setFault: none again", -1, () -> x.setFault(150, -1));
        x.undo();
        x.unshiftOnSpace(true);
        x.undo();
        Check.due("P33 unshiftOnSpace", false, () -> x.unshiftOnSpace(false));
        x.undo();
        Check.learn(x, "tip");
        x.undo();
        Check.due("P33 learn", 2, x::words);
        x.forget(0);
        Check.due("P33 forget is undone", 4, x::undo);
        Check.due("P33 forget: the word is back", (int) 'w', () -> x.wordLetter(0, 0));
        Check.due("P33 forget: in its place", (int) 'y', () -> x.wordLetter(1, 0));
        Check.due("P33 all as before", before, x::digest);
    }

    private static void testUndoOfUnshifting() {
        TelexReceiver x = new TelexReceiver();
        Check.send(x, ". .");
        x.unshiftOnSpace(true);
        x.setFault(0, 1);
        x.unshiftOnSpace(false);
        Check.due("P33 without unshifting", ". .", () -> Check.printed(x));
        x.undo();
        Check.due("P33 with unshifting, and decoded anew", ". k", () -> Check.printed(x));
        x.undo();
        Check.due("P33 a state that was saved with unshifting", ". k", () -> Check.printed(x));
        x.undo();
        Check.due("P33 before unshifting", ". .", () -> Check.printed(x));
        Check.due("P33 left", 0, x::undo);
        Check.due("P33 nothing is printed", "", () -> Check.printed(x));
    }

    private static void testWrongCharactersAfterUndo() {
        TelexReceiver x = new TelexReceiver();
        Check.send(x, "klm");
        Check.send(x, "nop");
        x.undo();
        Check.send(x, "kl");
        Check.due("P33 characters that were sent are undone too", 0, x::wrongCharacters);
        Check.due("P33 codes sent after an undo", "11 12 13 11 12", () -> Check.sentCodes(x));
        Check.due("P33 codes received after an undo", "11 12 13 11 12", () -> Check.receivedCodes(x));
    }

    private static void testBufferStays() {
        TelexReceiver x = new TelexReceiver();
        Check.send(x, "we");
        Check.appendAll(x, "abc");
        x.undo();
        Check.due("P33 the buffer stays as it is", 3, x::clearBuffer);
        Check.learn(x, "we");
        x.undo();
        Check.due("P33 the buffer does not come back", 0, x::clearBuffer);
        Check.appendAll(x, "we");
        x.clearBuffer();
        Check.due("P34 append and clearBuffer save nothing", 0, x::savedStates);
    }

    private static void testSixStates() {
        TelexReceiver x = new TelexReceiver();
        for (int i = 0; i < 9; i++) {
            Check.due("P34 before call " + i, Math.min(i, 6), x::savedStates);
            x.setFault(i, 1);
        }
        Check.due("P34 savedStates()", 6, x::savedStates);
        Check.due("P12 faults()", 9, x::faults);
        for (int left = 5; left >= 0; left--) {
            int faults = left + 3;
            Check.due("P33 undo()", left, x::undo);
            Check.due("P33 faults()", faults, x::faults);
            Check.due("P34 savedStates()", left, x::savedStates);
        }
        Check.due("P33 the oldest ones are gone", BAD_STATE, x::undo);
        Check.due("P33 undo() that throws changes nothing", 3, x::faults);
        for (int i = 0; i < 3; i++) {
            x.setFault(20 + i, 1);
        }
        x.undo();
        x.setFault(30, 1);
        Check.due("P33 states after an undo", 2, x::undo);
        Check.due("P33 the last fault is undone", -1, () -> x.setFault(30, -1));
        Check.due("P33 the one before is not", 1, () -> x.setFault(21, 1));
        Check.due("P33 the undone one is not", -1, () -> x.setFault(22, -1));
    }

    private static void testWithoutChange() {
        TelexReceiver x = new TelexReceiver();
        x.setFault(5, -1);
        x.unshiftOnSpace(false);
        Check.learn(x, "a");
        Check.learn(x, "a");
        Check.due("P34 saved even if nothing changes", 4, x::savedStates);
        x.undo();
        Check.due("P33 undo of a call without change", 1, x::words);
    }

    private static void testExceptionsChangeNothing() {
        TelexReceiver x = new TelexReceiver();
        Check.learn(x, "we");
        Check.send(x, "we k");
        long before = x.digest();
        int saved = x.savedStates();
        Check.due("send()", BAD_STATE, x::send);
        Check.due("learn()", IllegalArgumentException.class, x::learn);
        Check.due("forget(1)", IndexOutOfBoundsException.class, () -> x.forget(1));
        Check.due("setFault(0, 9)", IllegalArgumentException.class, () -> x.setFault(0, 9));
        Check.due("setFault(-1, 0)", IndexOutOfBoundsException.class, () -> x.setFault(-1, 0));
        Check.due("append(0)", IllegalArgumentException.class, () -> x.append(0));
        Check.due("P34 nothing is saved", saved, x::savedStates);
        Check.due("P35 nothing changed", before, x::digest);
    }

    private static long hash(int... values) {
        long hash = 8139;
        for (int value : values) {
            hash = 31 * hash + value;
        }
        return hash;
    }

    private static void testDigest() {
        TelexReceiver x = new TelexReceiver();
        Check.due("P35 of a new object", hash(0, 0, 0, 0, 0, 0, 0, 0, 0, 0, 0, 0, 0, -1), x::digest);
        Check.appendAll(x, "we");
        Check.due("P35 the buffer is no part of it", new TelexReceiver().digest(), x::digest);
        x.clearBuffer();
        Check.learn(x, "we");
        Check.learn(x, "k");
        x.setFault(2, 0);
        x.setFault(190, 0);
        Check.send(x, "we k @12.#");
        // w e (a space, lost) k space @ 30 1 2 . 29
        long want = hash(11, 10, 1, 2, 2, 7, 2, 0, 2, 1, 1, 1, 6, 4,
                23, 5, 11, 27, 29, 30, 1, 2, 11, 29,
                'w', 'e', 'k', ' ', '1', '2', '.',
                3, 4, 3, 5,
                2, 0, 1, 0);
        Check.due("wrongCharacters()", 6, x::wrongCharacters);
        Check.due("P35 of a line", want, x::digest);
        Check.due("P35 again", want, x::digest);
        testDigestOfGuesses();
        int saved = x.savedStates();
        Check.due("P35 saves nothing", saved, x::savedStates);
    }

    private static void testDigestOfGuesses() {
        TelexReceiver x = new TelexReceiver();
        Check.learn(x, "we");
        Check.learn(x, "zyxwvu");
        x.unshiftOnSpace(true);
        x.setFault(4, 0);
        Check.send(x, ".\n# we 3 we");
        // 30 11 28 29, the space is lost, 23 5 27, 30, 3 27 23 5
        Check.due("codes", "30 11 28 29 23 5 27 30 3 27 23 5", () -> Check.receivedCodes(x));
        long want = hash(13, 12, 0, 1, 2, 9, 4, 1, 1, 1, 0, 0, 8, -1,
                30, 11, 28, 29, 23, 5, 27, 30, 3, 27, 23, 5,
                '.', '\n', 'w', 'e', ' ', '3', ' ', 'w', 'e',
                1, 5, 2, 2, 1, 1, 2, 0,
                2, 2, 6, 0);
        Check.due("P35 of a line with guesses", want, x::digest);
    }

    public static void main(String[] args) {
        testUndoOfEachMethod();
        testUndoOfUnshifting();
        testWrongCharactersAfterUndo();
        testBufferStays();
        testSixStates();
        testWithoutChange();
        testExceptionsChangeNothing();
        testDigest();
        Check.finish();
    }
}
