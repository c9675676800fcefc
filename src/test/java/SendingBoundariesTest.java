import java.util.Set;
import java.util.TreeSet;

/** The terms "Codes", "Sending" and "Wire": each sentence that names a boundary, which stands above its test. */
public final class SendingBoundariesTest {
    private static final Object NO_INDEX = IndexOutOfBoundsException.class;
    private static final Object BAD_ARGUMENT = IllegalArgumentException.class;
    private static final Object BAD_STATE = IllegalStateException.class;
    private static final int[] BITS = {1, 2, 4, 8, 16};
    private static final String LETTERS = "abcdefghijklmnopqrstuvwxyz";
    private static final String FIGURES = "1234567890.,:;?!'()/-+=&%\"";

    // "A code is a number from 0 to 31."
    private static void testCodesFrom0To31() {
        Set<Integer> codes = new TreeSet<>();
        for (int letter = 1; letter <= 26; letter++) {
            for (int fault = 1; fault <= 5; fault++) {
                TelexReceiver x = new TelexReceiver();
                x.setFault(0, fault);
                Check.send(x, "" + LETTERS.charAt(letter - 1));
                Check.due("code " + letter + " with fault " + fault, letter ^ BITS[fault - 1], () -> x.receivedCode(0));
                codes.add(x.receivedCode(0));
            }
        }
        Check.due("each code can come of a fault", 32, codes::size);
        Check.due("the least code", 0, () -> Got.receiver("", 0).receivedCode(0));
        Check.due("the greatest code", 31, () -> Got.receiver("", 31).receivedCode(0));
    }

    // "1 to 26: in the letters shift the letters "a" to "z"; in the figures shift 1 to 9 are the digits
    // "1" to "9", 10 is the digit "0", and 11 to 26 are the characters of this text, in this order"
    private static void testCodesFrom1To26() {
        for (int code = 1; code <= 26; code++) {
            TelexReceiver x = Got.receiver("", code, 11);
            Check.due("code " + code + " in letters", (int) LETTERS.charAt(code - 1), () -> x.printed(0));
            TelexReceiver y = Got.receiver("", 30, code, 11);
            Check.due("code " + code + " in figures", (int) FIGURES.charAt(code - 1), () -> y.printed(0));
        }
    }

    // "27: a space; 28: a line break (the character code 10); both in each shift."
    private static void testSpaceAndLineBreakInEachShift() {
        Check.due("printed in both shifts", " \n \n", () -> Check.printed(Got.receiver("", 27, 28, 30, 27, 28)));
        TelexReceiver x = new TelexReceiver();
        Check.send(x, " \n# \n");
        Check.due("sent in both shifts", "27 28 30 29 27 28", () -> Check.sentCodes(x));
    }

    // "29: in the letters shift a question who is there, in the figures shift a bell. It prints nothing."
    private static void testCallInEachShift() {
        TelexReceiver letters = Got.receiver("", 29);
        Check.due("a question", 1, letters::questions);
        Check.due("no bell", 0, letters::bells);
        Check.due("a question prints nothing", 0, letters::printedLength);
        TelexReceiver figures = Got.receiver("", 30, 29);
        Check.due("no question", 0, figures::questions);
        Check.due("a bell", 1, figures::bells);
        Check.due("a bell prints nothing", 0, figures::printedLength);
    }

    // "30: from the next code on, the shift is figures. 31: from the next code on, the shift is letters.
    // Both print nothing."
    private static void testShiftsFromTheNextCodeOn() {
        TelexReceiver x = Got.receiver("", 11, 30, 11, 31, 11);
        Check.due("before and behind each shift", "k.k", () -> Check.printed(x));
        Check.due("a shift again", ".k.", () -> Check.printed(Got.receiver("", 30, 30, 11, 31, 31, 11, 30, 11)));
        Check.due("30 alone prints nothing", 0, Got.receiver("", 30)::printedLength);
        Check.due("31 alone prints nothing", 0, Got.receiver("", 31)::printedLength);
        Check.due("30 alone", 1, Got.receiver("", 30)::receiverShift);
        Check.due("31 alone", 0, Got.receiver("", 31)::receiverShift);
    }

    // "0: a blank, which does nothing."
    private static void testBlank() {
        TelexReceiver x = Got.receiver("", 0);
        Check.due("a blank is received", 1, x::received);
        Check.due("a blank prints nothing", 0, x::printedLength);
        Check.due("a blank is no segment", 0, x::segments);
        Check.due("a blank is no call", 0, () -> x.bells() + x.questions());
        Check.due("a blank in letters", "k", () -> Check.printed(Got.receiver("", 0, 11)));
        Check.due("a blank in figures", ".", () -> Check.printed(Got.receiver("", 30, 0, 11)));
    }

    // "So each letter, digit and sign has one code from 1 to 26 and one shift."
    private static void testOneCodeAndOneShift() {
        Set<Integer> pairs = new TreeSet<>();
        String all = LETTERS + FIGURES;
        for (int i = 0; i < all.length(); i++) {
            TelexReceiver x = new TelexReceiver();
            Check.send(x, "" + all.charAt(i));
            int code = x.sentCode(x.sent() - 1);
            pairs.add(100 * x.senderShift() + code);
            Check.due("the code of " + all.charAt(i), i % 26 + 1, () -> code);
            Check.due("the shift of " + all.charAt(i), i / 26, x::senderShift);
        }
        Check.due("no two have the same", 52, pairs::size);
    }

    // "The buffer contains at most 60 characters, and is empty at first."
    private static void testBufferOf60() {
        Check.due("empty at first", 0, new TelexReceiver()::clearBuffer);
        Check.due("nothing to send at first", BAD_STATE, new TelexReceiver()::send);
        TelexReceiver x = new TelexReceiver();
        Check.appendAll(x, "k".repeat(59));
        Check.due("the 60th", 60, () -> x.append('k'));
        Check.due("the 61st", BAD_STATE, () -> x.append('k'));
        Check.due("60 are sent", 60, x::send);
        Check.due("the 60th is printed", "k".repeat(60), () -> Check.printed(x));
    }

    // "A character is a letter from "a" to "z", a digit, one of the signs above, a space (32), a line
    // break (10), "@" (for the question) or "#" (for the bell)."
    private static void testEdgesOfTheCharacters() {
        String possible = "az0123456789.,:;?!'()/-+=&%\" \n@#";
        for (char character : possible.toCharArray()) {
            Check.due("append " + (int) character, 1, () -> new TelexReceiver().append(character));
        }
        // Each neighbour of a possible character that is none itself.
        int[] impossible = {9, 11, 31, '$', '*', '<', '>', 'A', 'Z', '`', '{', 13, 0, -1, 127, 128, 160};
        for (int character : impossible) {
            Check.due("append " + character, BAD_ARGUMENT, () -> new TelexReceiver().append(character));
        }
    }

    private static void sends(String what, String want, TelexReceiver x, String text) {
        int before = x.sent();
        Check.send(x, text);
        StringBuilder codes = new StringBuilder();
        for (int i = before; i < x.sent(); i++) {
            codes.append(x.sentCode(i)).append(' ');
        }
        Check.due(what, want, () -> codes.toString().trim());
    }

    // "Before a letter or "@", the code 31 is sent if the shift of the sender is figures; before a digit, a
    // sign or "#", the code 30 is sent if the shift of the sender is letters"
    private static void testShiftBeforeACharacter() {
        TelexReceiver x = new TelexReceiver();
        sends("a letter in letters", "1", x, "a");
        sends("a question in letters", "29", x, "@");
        sends("a digit in letters", "30 10", x, "0");
        sends("a digit in figures", "1", x, "1");
        sends("a sign in figures", "26", x, "\"");
        sends("a bell in figures", "29", x, "#");
        sends("a letter in figures", "31 26", x, "z");
        sends("a bell in letters", "30 29", x, "#");
        sends("a question in figures", "31 29", x, "@");
        sends("a sign in letters", "30 11", x, ".");
    }

    // "The shift of the sender is letters at first; it changes with the codes 30 and 31 that are sent."
    private static void testSenderShift() {
        TelexReceiver x = new TelexReceiver();
        Check.due("at first", 0, x::senderShift);
        x.append('1');
        Check.due("not sent yet", 0, x::senderShift);
        x.setFault(0, 0);
        x.send();
        Check.due("30 was sent, and lost", 1, x::senderShift);
        x.setFault(2, 1);
        Check.send(x, "a");
        Check.due("31 was sent, and changed to 30", 0, x::senderShift);
        x.setFault(4, 2);
        Check.send(x, "z");
        Check.due("the wire made 24 of 26", 24, () -> x.receivedCode(x.received() - 1));
        x.setFault(5, 3);
        Check.send(x, "z");
        Check.due("the wire made 30 of 26", 30, () -> x.receivedCode(x.received() - 1));
        Check.due("but 30 was not sent", 0, x::senderShift);
    }

    // "If the receiver unshifts on spaces (see below), the shift of the sender also becomes letters when a
    // space is sent."
    private static void testSenderUnshifts() {
        TelexReceiver off = new TelexReceiver();
        sends("a space without unshifting", "30 1 27 2", off, "1 2");
        sends("a space as the last without unshifting", "27", off, " ");
        Check.due("the shift stays figures", 1, off::senderShift);
        TelexReceiver on = new TelexReceiver();
        on.unshiftOnSpace(true);
        on.setFault(2, 0);
        sends("a space with unshifting, though it is lost", "30 1 27 30 2", on, "1 2");
        sends("a line break with unshifting", "28 3", on, "\n3");
        sends("a space as the first and as the last", "27 1 27", on, " a ");
        sends("a space as the last, in figures", "30 4 27", on, "4 ");
        Check.due("the shift is letters", 0, on::senderShift);
    }

    // The same: of a space that is sent, whatever the wire makes of it, and of nothing else.
    private static void testSenderUnshiftsByWhatIsSent() {
        TelexReceiver lost = new TelexReceiver();
        lost.unshiftOnSpace(true);
        lost.setFault(2, 0);
        Check.send(lost, "1 ");
        Check.due("a lost space: the sender", 0, lost::senderShift);
        Check.due("a lost space: the receiver", 1, lost::receiverShift);
        TelexReceiver changed = new TelexReceiver();
        changed.unshiftOnSpace(true);
        changed.setFault(2, 2);
        Check.send(changed, "1 ");
        Check.due("a changed space: the sender", 0, changed::senderShift);
        Check.due("a changed space: the receiver", 1, changed::receiverShift);
        TelexReceiver made = new TelexReceiver();
        made.unshiftOnSpace(true);
        made.setFault(1, 1);
        Check.send(made, "\"");
        Check.due("a space that the wire made: the sender", 1, made::senderShift);
        Check.due("a space that the wire made: the receiver", 0, made::receiverShift);
    }

    // "The codes that are sent are counted from 0 on; this number is the index of a code."
    private static void testIndexesFrom0() {
        TelexReceiver x = new TelexReceiver();
        x.setFault(0, 0);
        x.setFault(3, 0);
        Check.send(x, "k1");
        Check.send(x, "2b");
        Check.due("codes 0 to 4", "11 30 1 2 31 2", () -> Check.sentCodes(x));
        Check.due("without the codes 0 and 3", "30 1 31 2", () -> Check.receivedCodes(x));
    }

    // "At most 200 codes are sent in all."
    private static void test200CodesInAll() {
        TelexReceiver x = new TelexReceiver();
        x.setFault(0, 0);
        Check.sendInParts(x, "k".repeat(199));
        Check.appendAll(x, "1");
        Check.due("the shift is the 200th, the digit the 201st", BAD_STATE, x::send);
        x.clearBuffer();
        Check.due("the 200th", 1, () -> Check.send(x, "k"));
        Check.due("a lost code counts too", 199, x::received);
        x.append('k');
        Check.due("the 201st", BAD_STATE, x::send);
        Check.due("200 in all", 200, x::sent);
    }

    // "For each index from 0 to 199 there can be a fault: 0 (the code is lost) or 1 to 5"
    private static void testFaultsAtAllIndexes() {
        TelexReceiver x = new TelexReceiver();
        for (int index = 0; index < 200; index++) {
            x.setFault(index, 0);
        }
        Check.due("at all indexes", 200, x::faults);
        Check.due("index 200", NO_INDEX, () -> x.setFault(200, 0));
        Check.due("index -1", NO_INDEX, () -> x.setFault(-1, 0));
        Check.sendInParts(x, "k".repeat(200));
        Check.due("all are sent", 200, x::sent);
        Check.due("all are lost", 0, x::received);
    }

    // "1 to 5 (the bit with the value 1, 2, 4, 8 or 16 of the code is inverted)"
    private static void testEachBit() {
        for (int fault = 1; fault <= 5; fault++) {
            int bit = BITS[fault - 1];
            TelexReceiver set = new TelexReceiver();
            set.setFault(0, fault);
            Check.send(set, bit == 16 ? "o" : "p");
            Check.due("bit " + bit + " from 0 to 1", bit == 16 ? 31 : 16 + bit, () -> set.receivedCode(0));
            TelexReceiver clear = new TelexReceiver();
            clear.setFault(0, fault);
            Check.send(clear, bit == 16 ? "p" : "o");
            Check.due("bit " + bit + " from 1 to 0", bit == 16 ? 0 : 15 - bit, () -> clear.receivedCode(0));
            Check.due("it is sent without the fault", bit == 16 ? 16 : 15, () -> clear.sentCode(0));
        }
    }

    // "At first there are none."
    private static void testNoFaultsAtFirst() {
        TelexReceiver x = new TelexReceiver();
        Check.due("faults()", 0, x::faults);
        for (int index = 0; index < 200; index++) {
            int at = index;
            Check.due("at index " + at, -1, () -> x.setFault(at, -1));
        }
    }

    // "A code is received as it is sent if there is no fault for its index; it is not received if the fault
    // is 0; otherwise it is received with the inverted bit."
    private static void testEachKindOfFault() {
        TelexReceiver x = new TelexReceiver();
        for (int index = 0; index < 200; index++) {
            x.setFault(index, index % 7 - 1);
        }
        Check.sendInParts(x, "p".repeat(200));
        int[] want = {16, -1, 17, 18, 20, 24, 0};
        int number = 0;
        // The document answers 512 calls: not all 200 codes can be looked at.
        for (int index = 0; index < 200; index++) {
            int code = want[index % 7];
            int at = number;
            if (code != -1 && (index < 20 || index >= 180)) {
                Check.due("the code of index " + index, code, () -> x.receivedCode(at));
            }
            number += code == -1 ? 0 : 1;
        }
        Check.due("received()", number, x::received);
    }

    // "Later changes of faults do not change what was received."
    private static void testLaterFaults() {
        TelexReceiver x = new TelexReceiver();
        x.setFault(0, 0);
        x.setFault(1, 2);
        Check.send(x, "klm");
        x.setFault(0, -1);
        x.setFault(1, -1);
        x.setFault(2, 0);
        Check.due("the codes", "14 13", () -> Check.receivedCodes(x));
        Check.due("what is printed", "nm", () -> Check.printed(x));
        Check.send(x, "k");
        x.unshiftOnSpace(true);
        Check.due("when more is received", "14 13 11", () -> Check.receivedCodes(x));
    }

    public static void main(String[] args) {
        testCodesFrom0To31();
        testCodesFrom1To26();
        testSpaceAndLineBreakInEachShift();
        testCallInEachShift();
        testShiftsFromTheNextCodeOn();
        testBlank();
        testOneCodeAndOneShift();
        testBufferOf60();
        testEdgesOfTheCharacters();
        testShiftBeforeACharacter();
        testSenderShift();
        testSenderUnshifts();
        testSenderUnshiftsByWhatIsSent();
        testIndexesFrom0();
        test200CodesInAll();
        testFaultsAtAllIndexes();
        testEachBit();
        testNoFaultsAtFirst();
        testEachKindOfFault();
        testLaterFaults();
        Check.finish();
    }
}
