/** The terms "Undo" and "Exceptions", promises 33 to 35: each sentence that names a boundary, above its test. */
public final class UndoBoundariesTest {
    private static final Object NO_INDEX = IndexOutOfBoundsException.class;
    private static final Object BAD_ARGUMENT = IllegalArgumentException.class;
    private static final Object BAD_STATE = IllegalStateException.class;

    // "The state consists of everything except the buffer and the saved states."
    private static void testEverythingIsUndone() {
        TelexReceiver x = new TelexReceiver();
        Check.send(x, "#k");
        Check.due("sent()", 4, x::sent);
        x.undo();
        Check.due("send: sent()", 0, x::sent);
        Check.due("send: received()", 0, x::received);
        Check.due("send: senderShift()", 0, x::senderShift);
        Check.due("send: receiverShift()", 0, x::receiverShift);
        Check.due("send: bells()", 0, x::bells);
        Check.due("send: printedLength()", 0, x::printedLength);
        Check.due("send: the characters that were sent", 0, x::wrongCharacters);
        Check.send(x, ".");
        x.undo();
        Check.send(x, "k");
        Check.due("send: the sender begins in letters again", "11", () -> Check.sentCodes(x));
        x.setFault(1, 0);
        x.undo();
        Check.due("setFault: faults()", 0, x::faults);
        Check.due("setFault: no code is lost", 1, () -> Check.send(x, "l"));
        x.unshiftOnSpace(true);
        x.undo();
        Check.due("unshiftOnSpace", false, () -> x.unshiftOnSpace(false));
        Check.learn(x, "kl");
        x.undo();
        Check.due("learn: words()", 0, x::words);
        Check.due("learn: kinds", "4", () -> Check.kinds(x));
        Check.learn(x, "kl");
        x.forget(0);
        x.undo();
        Check.due("forget: words()", 1, x::words);
        Check.due("forget: kinds", "0", () -> Check.kinds(x));
    }

    private static void testFullPartsComeBack() {
        TelexReceiver x = new TelexReceiver();
        Check.learnTwenty(x);
        x.forget(0);
        x.undo();
        Check.due("20 words: words()", 20, x::words);
        Check.due("20 words: the first", (int) 'a', () -> x.wordLetter(0, 0));
        Check.due("20 words: the last", (int) 't', () -> x.wordLetter(19, 0));
        TelexReceiver line = new TelexReceiver();
        Check.sendInParts(line, "kl".repeat(100));
        for (int index = 0; index < 200; index += 199) {
            line.setFault(index, 5);
        }
        long before = line.digest();
        line.setFault(199, 3);
        line.setFault(0, 2);
        line.undo();
        line.undo();
        Check.due("200 codes: digest()", before, line::digest);
        Check.due("200 codes: wrongCharacters()", 0, line::wrongCharacters);
        Check.due("200 codes: the last that was sent", 12, () -> line.sentCode(199));
        Check.due("200 codes: the fault of the last", 5, () -> line.setFault(199, -1));
        Check.due("200 codes: the fault of the first", 5, () -> line.setFault(0, -1));
    }

    private static void testAPartOfTheLineComesBack() {
        TelexReceiver x = new TelexReceiver();
        x.setFault(1, 0);
        Check.send(x, "klm");
        long before = x.digest();
        Check.send(x, "..");
        x.undo();
        Check.due("3 codes: digest()", before, x::digest);
        Check.due("3 codes: wrongCharacters()", 2, x::wrongCharacters);
        Check.send(x, "n");
        Check.due("3 codes and one more", "11 12 13 14", () -> Check.sentCodes(x));
        Check.due("3 codes and one more: received", "11 13 14", () -> Check.receivedCodes(x));
        Check.due("3 codes and one more: wrongCharacters()", 3, x::wrongCharacters);
    }

    private static void testTheBufferIsNoPartOfTheState() {
        TelexReceiver x = new TelexReceiver();
        Check.send(x, "k");
        Check.appendAll(x, "#l");
        x.undo();
        Check.due("what is in the buffer stays", "30 29 31 12", () -> {
            x.send();
            return Check.sentCodes(x);
        });
        x.undo();
        Check.due("what was sent does not come back", BAD_STATE, x::send);
        Check.learn(x, "we");
        x.undo();
        Check.due("what was learnt does not come back", 0, x::clearBuffer);
        x.setFault(0, 1);
        Check.appendAll(x, "k".repeat(60));
        x.undo();
        Check.due("a full buffer stays full", BAD_STATE, () -> x.append('k'));
    }

    // "Each method that is marked "Undoable" saves the state from before the call if it does not throw an
    // exception, even if nothing changes."
    private static void testSavedEvenIfNothingChanges() {
        TelexReceiver x = new TelexReceiver();
        x.setFault(0, -1);
        Check.due("setFault", 1, x::savedStates);
        x.unshiftOnSpace(false);
        Check.due("unshiftOnSpace", 2, x::savedStates);
        Check.learn(x, "k");
        Check.due("learn", 3, x::savedStates);
        Check.learn(x, "k");
        Check.due("learn a known word", 4, x::savedStates);
        x.forget(0);
        Check.due("forget", 5, x::savedStates);
        Check.send(x, " ");
        Check.due("send", 6, x::savedStates);
        TelexReceiver y = new TelexReceiver();
        y.setFault(3, 2);
        y.setFault(3, 2);
        y.undo();
        Check.due("the same fault again is undone alone", 2, () -> y.setFault(3, 2));
    }

    private static void testSavedByNoOtherCall() {
        TelexReceiver x = new TelexReceiver();
        Check.learn(x, "k");
        Check.send(x, "k");
        x.append('k');
        x.codesToSend();
        x.clearBuffer();
        x.sent();
        x.received();
        x.sentCode(0);
        x.receivedCode(0);
        x.senderShift();
        x.faults();
        x.words();
        x.wordLetter(0, 0);
        x.uses(0);
        x.printedLength();
        x.printed(0);
        x.segments();
        x.segmentLength(0);
        x.segmentKind(0);
        x.guesses();
        x.doubtful();
        x.bells();
        x.questions();
        x.receiverShift();
        x.wrongCharacters();
        x.plausibility();
        x.doubtfulWith(0, 30);
        x.bestRepair();
        x.savedStates();
        x.digest();
        Check.due("savedStates()", 2, x::savedStates);
        Check.due("undo() saves nothing", 1, x::undo);
        Check.due("send is undone, no other call", 0, x::sent);
        Check.due("savedStates() after undo()", 1, x::savedStates);
    }

    // "At most 6 states are saved; when one more is saved, the oldest one is discarded."
    private static void testSixStates() {
        TelexReceiver six = new TelexReceiver();
        for (int i = 0; i < 6; i++) {
            six.setFault(i, 0);
        }
        Check.due("6 states", 6, six::savedStates);
        for (int left = 5; left >= 0; left--) {
            Check.due("undo of 6", left, six::undo);
        }
        Check.due("the state from before all 6", 0, six::faults);
        TelexReceiver seven = new TelexReceiver();
        for (int i = 0; i < 7; i++) {
            seven.setFault(i, 0);
        }
        Check.due("7 states are too many", 6, seven::savedStates);
        for (int left = 5; left >= 0; left--) {
            Check.due("undo of 7", left, seven::undo);
        }
        Check.due("the state from before all 7 is gone", 1, seven::faults);
        Check.due("no more undo", BAD_STATE, seven::undo);
    }

    private static void testManyStates() {
        TelexReceiver x = new TelexReceiver();
        for (int i = 0; i < 100; i++) {
            Check.send(x, "k");
        }
        for (int left = 5; left >= 0; left--) {
            int sent = 94 + left;
            Check.due("undo of 100", left, x::undo);
            Check.due("sent()", sent, x::sent);
        }
        for (int i = 0; i < 8; i++) {
            Check.send(x, "l");
            x.undo();
            Check.learn(x, "l");
        }
        Check.due("in turn with undo", 6, x::savedStates);
    }

    /** A receiver with something in each part of the state and in the buffer. */
    private static TelexReceiver busy() {
        TelexReceiver x = new TelexReceiver();
        Check.learn(x, "we");
        x.unshiftOnSpace(true);
        x.setFault(2, 0);
        Check.send(x, "we 12 k#");
        Check.appendAll(x, "q1 ");
        return x;
    }

    private static void changesNothing(String what, Object exception, TelexReceiver x, Check.Call call) {
        TelexReceiver same = busy();
        Check.due(what, exception, call);
        Check.due(what + ": digest()", same.digest(), x::digest);
        Check.due(what + ": savedStates()", same.savedStates(), x::savedStates);
        Check.due(what + ": codesToSend()", same.codesToSend(), x::codesToSend);
        same.send();
        x.send();
        Check.due(what + ": what is sent next", Check.sentCodes(same), () -> Check.sentCodes(x));
        Check.due(what + ": digest() then", same.digest(), x::digest);
        for (int left = same.savedStates() - 1; left >= 0; left--) {
            same.undo();
            Check.due(what + ": undo()", left, x::undo);
            Check.due(what + ": digest() undone", same.digest(), x::digest);
        }
    }

    // "A call that throws an exception changes nothing."
    private static void testExceptionsChangeNothing() {
        TelexReceiver[] x = new TelexReceiver[14];
        for (int i = 0; i < x.length; i++) {
            x[i] = busy();
        }
        changesNothing("append('A')", BAD_ARGUMENT, x[0], () -> x[0].append('A'));
        changesNothing("setFault(200, 0)", NO_INDEX, x[1], () -> x[1].setFault(200, 0));
        changesNothing("setFault(2, 6)", BAD_ARGUMENT, x[2], () -> x[2].setFault(2, 6));
        changesNothing("sentCode", NO_INDEX, x[3], () -> x[3].sentCode(x[3].sent()));
        changesNothing("receivedCode", NO_INDEX, x[4], () -> x[4].receivedCode(x[4].received()));
        changesNothing("learn()", BAD_ARGUMENT, x[5], x[5]::learn);
        changesNothing("forget(1)", NO_INDEX, x[6], () -> x[6].forget(1));
        changesNothing("wordLetter(0, 6)", NO_INDEX, x[7], () -> x[7].wordLetter(0, 6));
        changesNothing("uses(1)", NO_INDEX, x[8], () -> x[8].uses(1));
        changesNothing("printed", NO_INDEX, x[9], () -> x[9].printed(x[9].printedLength()));
        changesNothing("segmentLength", NO_INDEX, x[10], () -> x[10].segmentLength(x[10].segments()));
        changesNothing("segmentKind", NO_INDEX, x[11], () -> x[11].segmentKind(x[11].segments()));
        changesNothing("doubtfulWith number", NO_INDEX, x[12], () -> x[12].doubtfulWith(x[12].received() + 1, 30));
        changesNothing("doubtfulWith code", BAD_ARGUMENT, x[13], () -> x[13].doubtfulWith(0, 32));
    }

    private static void testExceptionsOfFullPartsChangeNothing() {
        TelexReceiver x = new TelexReceiver();
        Check.due("send() of nothing", BAD_STATE, x::send);
        Check.due("undo() of nothing", BAD_STATE, x::undo);
        Check.due("nothing is saved", 0, x::savedStates);
        Check.due("nothing changed", new TelexReceiver().digest(), x::digest);
        Check.sendInParts(x, "k".repeat(199));
        long before = x.digest();
        Check.appendAll(x, "1");
        Check.due("send() of too many", BAD_STATE, x::send);
        Check.due("sent()", 199, x::sent);
        Check.due("the sender's shift", 0, x::senderShift);
        Check.due("the saved states", 4, x::savedStates);
        Check.due("the digest", before, x::digest);
        Check.due("the buffer", 2, x::codesToSend);
        Check.appendAll(x, "a".repeat(59));
        Check.due("append to a full buffer", BAD_STATE, () -> x.append('a'));
        Check.due("the buffer then", 60, x::clearBuffer);
        TelexReceiver y = new TelexReceiver();
        Check.learnTwenty(y);
        Check.appendAll(y, "zz");
        Check.due("learn() of too many", BAD_STATE, y::learn);
        Check.due("words()", 20, y::words);
        Check.due("the saved states, all 6 of before", 6, y::savedStates);
        Check.due("the buffer stays", 2, y::clearBuffer);
        y.undo();
        Check.due("the last word that was learnt is undone", 19, y::words);
    }

    // "If more than one exception applies to a call, the one that is listed first in its throws clause is
    // thrown."
    private static void testTheFirstOfTwoExceptions() {
        TelexReceiver x = new TelexReceiver();
        Check.appendAll(x, "k".repeat(60));
        Check.due("append of no character to a full buffer", BAD_ARGUMENT, () -> x.append('A'));
        Check.due("setFault of no fault at no index", NO_INDEX, () -> x.setFault(200, 6));
        Check.due("setFault of no fault below at no index below", NO_INDEX, () -> x.setFault(-1, -2));
        Check.due("doubtfulWith no shift behind the end", NO_INDEX, () -> x.doubtfulWith(1, 29));
        Check.due("doubtfulWith no shift before the start", NO_INDEX, () -> x.doubtfulWith(-1, 32));
        TelexReceiver y = new TelexReceiver();
        Check.learnTwenty(y);
        Check.due("learn of nothing, without room", BAD_ARGUMENT, y::learn);
        Check.appendAll(y, "abcdefg");
        Check.due("learn of 7 letters, without room", BAD_ARGUMENT, y::learn);
    }

    // "NONE = -1": There is no such number.
    private static void testNone() {
        Check.due("NONE", -1, () -> TelexReceiver.NONE);
    }

    // Promise 33: "Throws IllegalStateException if no state is saved"
    private static void testUndoWithoutStates() {
        TelexReceiver x = new TelexReceiver();
        Check.due("of a new object", BAD_STATE, x::undo);
        x.append('k');
        Check.due("behind a call that saves nothing", BAD_STATE, x::undo);
        x.send();
        Check.due("of the one state", 0, x::undo);
        Check.due("behind the last undo", BAD_STATE, x::undo);
    }

    // Promise 33: "Restores the state that was saved last, and removes it from the saved states." "Returns
    // the number of saved states that are left."
    private static void testUndoRestoresTheLast() {
        TelexReceiver x = new TelexReceiver();
        x.setFault(0, 1);
        x.setFault(0, 2);
        x.setFault(0, 3);
        Check.due("2 are left", 2, x::undo);
        Check.due("1 is left", 1, x::undo);
        Check.due("none is left", 0, x::undo);
        Check.due("the first state", 0, x::faults);
        x.setFault(0, 1);
        x.setFault(0, 2);
        x.undo();
        x.setFault(1, 5);
        Check.due("an undo does not come back by an undo", 1, x::undo);
        Check.due("the fault of the last call but one", 1, () -> x.setFault(0, 0));
    }

    // Promise 34: "Returns the number of saved states, 0 to 6."
    private static void testSavedStatesFrom0To6() {
        TelexReceiver x = new TelexReceiver();
        for (int count = 0; count <= 20; count++) {
            Check.due("behind " + count, Math.min(count, 6), x::savedStates);
            x.unshiftOnSpace(count % 2 == 0);
        }
    }

    private static long hash(long start, int... values) {
        long hash = start;
        for (int value : values) {
            hash = 31 * hash + value;
        }
        return hash;
    }

    // Promise 35: "The hash starts at 8139."
    private static void testDigestOfNothing() {
        // Of all values the last one alone is not 0: 8139 times 31 to the power of 14, less 1.
        long want = 8139L;
        for (int i = 0; i < 14; i++) {
            want *= 31L;
        }
        Check.due("of a new object", want - 1, new TelexReceiver()::digest);
    }

    // Promise 35: "For each value v of the following list, in order, the hash becomes 31 * hash + v, in long
    // arithmetic with overflow."
    private static void testDigestOfAFullLine() {
        TelexReceiver x = new TelexReceiver();
        Check.sendInParts(x, "k".repeat(200));
        long want = hash(8139L, 200, 200, 0, 0, 0, 200, 1, 0, 1, 0, 0, 0, 0, -1);
        for (int i = 0; i < 200; i++) {
            want = hash(want, 11);
        }
        for (int i = 0; i < 200; i++) {
            want = hash(want, 'k');
        }
        Check.due("of 200 codes", hash(want, 200, 4), x::digest);
    }

    // Promise 35: "what sent(), received(), senderShift(), faults(), words(), printedLength(), segments(),
    // guesses(), doubtful(), bells(), questions(), receiverShift(), wrongCharacters() and bestRepair() return;
    // each code that was received; each character that is printed; for each segment its length and its kind;
    // for each word the number of its letters, and what uses() returns."
    private static void testDigestTellsEachValue() {
        TelexReceiver x = Got.receiver("we be", 29, 29, 29, 30, 29, 29, 31, 1, 27, 11, 0, 23, 5, 23, 5, 31, 2, 5);
        Check.send(x, "@#");
        x.setFault(198, 0);
        x.setFault(199, 0);
        long want = hash(8139L, x.sent(), x.received(), x.senderShift(), x.faults(), x.words(), x.printedLength(),
                x.segments(), x.guesses(), x.doubtful(), x.bells(), x.questions(), x.receiverShift(),
                x.wrongCharacters(), x.bestRepair());
        want = hash(want, 29, 29, 29, 30, 29, 29, 31, 1, 27, 11, 0, 23, 5, 23, 5, 31, 2, 5, 29, 30, 29);
        want = hash(want, '1', ' ', '.', '=', '5', '=', '5', 'b', 'e');
        Check.due("doubtful segments", 2, x::doubtful);
        Check.due("kinds", "3 5 5 0", () -> Check.kinds(x));
        want = hash(want, 1, 3, 1, 5, 4, 5, 2, 0);
        Check.due("with each value", hash(want, 2, 0, 2, 1), x::digest);
    }

    public static void main(String[] args) {
        testEverythingIsUndone();
        testFullPartsComeBack();
        testAPartOfTheLineComesBack();
        testTheBufferIsNoPartOfTheState();
        testSavedEvenIfNothingChanges();
        testSavedByNoOtherCall();
        testSixStates();
        testManyStates();
        testExceptionsChangeNothing();
        testExceptionsOfFullPartsChangeNothing();
        testTheFirstOfTwoExceptions();
        testNone();
        testUndoWithoutStates();
        testUndoRestoresTheLast();
        testSavedStatesFrom0To6();
        testDigestOfNothing();
        testDigestOfAFullLine();
        testDigestTellsEachValue();
        Check.finish();
    }
}
