/** Promises 13 to 18: each sentence that names a boundary, which stands above its test. */
public final class DictionaryBoundariesTest {
    private static final Object NO_INDEX = IndexOutOfBoundsException.class;
    private static final Object BAD_ARGUMENT = IllegalArgumentException.class;
    private static final Object BAD_STATE = IllegalStateException.class;

    // Promise 13: "Makes the receiver (and the sender) unshift on spaces, or not."
    private static void testUnshiftOnSpace() {
        TelexReceiver x = new TelexReceiver();
        Check.send(x, ". ");
        x.unshiftOnSpace(true);
        Check.due("P13 the receiver unshifts, also on what was received before", 0, x::receiverShift);
        Check.due("P13 the sender's shift stays until a space is sent", 1, x::senderShift);
        Check.send(x, "\n");
        Check.due("P13 a line break is no space", 1, x::senderShift);
        Check.send(x, " ");
        Check.due("P13 a space", 0, x::senderShift);
        x.unshiftOnSpace(false);
        Check.due("P13 the receiver no longer does", 1, x::receiverShift);
        Check.due("P13 the sender's shift stays", 0, x::senderShift);
        Check.send(x, ". ");
        Check.due("P13 the sender no longer does", 1, x::senderShift);
    }

    // Promise 13: "Returns whether it did before the call."
    private static void testUnshiftReturnsTheSettingBefore() {
        TelexReceiver x = new TelexReceiver();
        Check.due("P13 off, to off", false, () -> x.unshiftOnSpace(false));
        Check.due("P13 off, to on", false, () -> x.unshiftOnSpace(true));
        Check.due("P13 on, to on", true, () -> x.unshiftOnSpace(true));
        Check.due("P13 on, to off", true, () -> x.unshiftOnSpace(false));
        Check.due("P13 off again", false, () -> x.unshiftOnSpace(false));
        x.undo();
        x.undo();
        Check.due("P13 on by undo()", true, () -> x.unshiftOnSpace(true));
    }

    // Promise 14: "Adds a word to the dictionary: the characters of the buffer, which is emptied."
    private static void testLearnEmptiesTheBuffer() {
        TelexReceiver x = new TelexReceiver();
        Check.appendAll(x, "az");
        x.learn();
        Check.due("P14 emptied", 0, x::clearBuffer);
        Check.appendAll(x, "az");
        x.learn();
        Check.due("P14 emptied by a known word too", 0, x::clearBuffer);
        Check.due("P14 the first letter", (int) 'a', () -> x.wordLetter(0, 0));
        Check.due("P14 the last letter", (int) 'z', () -> x.wordLetter(0, 1));
        Check.due("P14 nothing is sent", 0, x::sent);
    }

    // Promise 14: "Returns the number of words after the call, which is the same as before if the word is in
    // the dictionary already."
    private static void testLearnReturnsTheNumberOfWords() {
        TelexReceiver x = new TelexReceiver();
        Check.due("P14 the first", 1, () -> Check.learn(x, "kl"));
        Check.due("P14 the same", 1, () -> Check.learn(x, "kl"));
        Check.due("P14 a part of it", 2, () -> Check.learn(x, "k"));
        Check.due("P14 its end", 3, () -> Check.learn(x, "l"));
        Check.due("P14 more than it", 4, () -> Check.learn(x, "klm"));
        Check.due("P14 turned round", 5, () -> Check.learn(x, "lk"));
        Check.due("P14 the same letter more often", 6, () -> Check.learn(x, "kk"));
        Check.due("P14 known, the last", 6, () -> Check.learn(x, "kk"));
        Check.due("P14 known, the first", 6, () -> Check.learn(x, "kl"));
        Check.due("P14 the first keeps its place", (int) 'k', () -> x.wordLetter(0, 0));
        x.forget(0);
        Check.due("P14 forgotten and learnt", 6, () -> Check.learn(x, "kl"));
        Check.due("P14 it is the last now", (int) 'l', () -> x.wordLetter(5, 1));
    }

    // Promise 14: "Throws IllegalArgumentException if the buffer does not contain 1 to 6 letters and nothing
    // else"
    private static void testLearnNoWord() {
        String[] wrong = {"", "abcdefg", "abcdef ", " abcdef", "abcde ", "1", "a1", "1a", "ab.cd", "abcde#",
            "@abcde", "\n", "a\n", " ", "abcdefghijklm", "a".repeat(60), "abcdef1"};
        for (String text : wrong) {
            TelexReceiver x = new TelexReceiver();
            Check.appendAll(x, text);
            Check.due("P14 learn \"" + text + "\"", BAD_ARGUMENT, x::learn);
            Check.due("P14 no word \"" + text + "\"", 0, x::words);
            Check.due("P14 the buffer \"" + text + "\"", text.length(), x::clearBuffer);
        }
        for (String text : new String[] {"a", "z", "abcdef", "zzzzzz", "aaaaaa"}) {
            Check.due("P14 learn " + text, 1, () -> Check.learn(new TelexReceiver(), text));
        }
    }

    // Promise 14: "Throws IllegalStateException if the dictionary has 20 words and the word is not one of
    // them"
    private static void testLearnWithoutRoom() {
        TelexReceiver x = new TelexReceiver();
        Check.learnTwenty(x);
        Check.appendAll(x, "u");
        Check.due("P14 the 21st", BAD_STATE, x::learn);
        Check.due("P14 the 21st again", BAD_STATE, x::learn);
        x.clearBuffer();
        Check.due("P14 the first of 20", 20, () -> Check.learn(x, "a"));
        Check.due("P14 the last of 20", 20, () -> Check.learn(x, "t"));
        x.forget(0);
        Check.due("P14 one less and one more", 20, () -> Check.learn(x, "u"));
        Check.appendAll(x, "a");
        Check.due("P14 the one that was forgotten has no room", BAD_STATE, x::learn);
    }

    private static String letters(TelexReceiver x) {
        StringBuilder text = new StringBuilder();
        for (int word = 0; word < x.words(); word++) {
            text.append((char) x.wordLetter(word, 0));
        }
        return text.toString();
    }

    // Promise 15: "Removes a word from the dictionary; the numbers of the words behind it decrease by 1."
    private static void testForget() {
        TelexReceiver x = new TelexReceiver();
        Check.learnTwenty(x);
        x.forget(19);
        Check.due("P15 the last", "abcdefghijklmnopqrs", () -> letters(x));
        x.forget(0);
        Check.due("P15 the first", "bcdefghijklmnopqrs", () -> letters(x));
        x.forget(1);
        Check.due("P15 the second", "bdefghijklmnopqrs", () -> letters(x));
        x.undo();
        Check.due("P15 undone", "bcdefghijklmnopqrs", () -> letters(x));
        TelexReceiver one = new TelexReceiver();
        Check.learn(one, "k");
        Got.codes(one, 11);
        one.forget(0);
        Check.due("P15 the only one", 0, one::words);
        Check.due("P15 no segment is a word now", "4", () -> Check.kinds(one));
    }

    // Promise 15: "Returns the length of the word."
    private static void testForgetReturnsTheLength() {
        TelexReceiver x = new TelexReceiver();
        for (int length = 1; length <= 6; length++) {
            Check.learn(x, "zzzzzz".substring(0, length));
        }
        for (int length = 1; length <= 6; length++) {
            Check.due("P15 of " + length + " letters", length, () -> x.forget(0));
        }
    }

    // Promise 15: "Throws IndexOutOfBoundsException if there is no such word"
    private static void testForgetNoWord() {
        TelexReceiver x = new TelexReceiver();
        Check.due("P15 word 0 of none", NO_INDEX, () -> x.forget(0));
        Check.learn(x, "k");
        int[] none = {-1, 1, 19, 20, Integer.MIN_VALUE, Integer.MAX_VALUE};
        for (int word : none) {
            Check.due("P15 word " + word + " of 1", NO_INDEX, () -> x.forget(word));
        }
        Check.due("P15 the word stays", 1, () -> x.forget(0));
        TelexReceiver full = new TelexReceiver();
        Check.learnTwenty(full);
        Check.due("P15 word 20 of 20", NO_INDEX, () -> full.forget(20));
        Check.due("P15 word 19 of 20", 1, () -> full.forget(19));
        Check.due("P15 word 19 of 19", NO_INDEX, () -> full.forget(19));
    }

    // Promise 16: "Returns the number of words of the dictionary."
    private static void testWords() {
        TelexReceiver x = new TelexReceiver();
        Check.due("P16 none", 0, x::words);
        Check.learn(x, "k");
        Check.due("P16 one", 1, x::words);
        Check.learn(x, "k");
        Check.due("P16 the same", 1, x::words);
        x.forget(0);
        Check.due("P16 none again", 0, x::words);
        Check.learnTwenty(x);
        Check.due("P16 the most", 20, x::words);
    }

    // Promise 17: "Returns the character code; NONE if the word is not so long."
    private static void testWordLetter() {
        for (int length = 1; length <= 6; length++) {
            String word = "azbycx".substring(0, length);
            TelexReceiver x = new TelexReceiver();
            Check.learn(x, word);
            for (int index = 0; index < 6; index++) {
                int at = index;
                int want = index < length ? word.charAt(index) : -1;
                Check.due("P17 letter " + at + " of " + word, want, () -> x.wordLetter(0, at));
            }
        }
    }

    // Promise 17: "index: 0 to 5", "Throws IndexOutOfBoundsException if there is no such word, or index is
    // out of range"
    private static void testWordLetterOutOfRange() {
        TelexReceiver x = new TelexReceiver();
        Check.due("P17 word 0 of none", NO_INDEX, () -> x.wordLetter(0, 0));
        Check.learn(x, "klmnop");
        Check.learn(x, "k");
        int[] none = {-1, 6, 7, 12, Integer.MIN_VALUE, Integer.MAX_VALUE};
        for (int index : none) {
            Check.due("P17 index " + index + " of 6 letters", NO_INDEX, () -> x.wordLetter(0, index));
            Check.due("P17 index " + index + " of 1 letter", NO_INDEX, () -> x.wordLetter(1, index));
        }
        Check.due("P17 word 2 of 2", NO_INDEX, () -> x.wordLetter(2, 0));
        Check.due("P17 word 2 of 2, an index that is NONE elsewhere", NO_INDEX, () -> x.wordLetter(2, 5));
        Check.due("P17 word -1", NO_INDEX, () -> x.wordLetter(-1, 0));
        Check.due("P17 word and index", NO_INDEX, () -> x.wordLetter(20, 6));
        Check.due("P17 the last word", (int) 'k', () -> x.wordLetter(1, 0));
    }

    // Promise 18: "Returns how many segments are printed as a word of the dictionary (in the letters shift)."
    private static void testUses() {
        TelexReceiver x = Got.receiver("ab cd e", 1, 2, 27, 3, 4, 27, 1, 2);
        Check.due("P18 twice", 2, () -> x.uses(0));
        Check.due("P18 once", 1, () -> x.uses(1));
        Check.due("P18 never", 0, () -> x.uses(2));
        TelexReceiver digits = Got.receiver("ab", 30, 1, 2, 31, 1, 2);
        Check.due("P18 not as digits in the figures shift", 1, () -> digits.uses(0));
        TelexReceiver guess = Got.receiver("we", 30, 23, 5);
        Check.due("P18 as a guess", 1, () -> guess.uses(0));
        TelexReceiver parts = Got.receiver("k", 11, 11, 27, 11, 12, 27, 12, 11);
        Check.due("P18 not as a part of a segment", 0, () -> parts.uses(0));
        TelexReceiver most = new TelexReceiver();
        Check.learn(most, "k");
        Check.sendInParts(most, "k ".repeat(100));
        Check.due("P18 the most", 100, () -> most.uses(0));
    }

    // Promise 18: "Throws IndexOutOfBoundsException if there is no such word"
    private static void testUsesOfNoWord() {
        TelexReceiver x = Got.receiver("", 11);
        Check.due("P18 word 0 of none", NO_INDEX, () -> x.uses(0));
        Check.learn(x, "k");
        Check.due("P18 word 0", 1, () -> x.uses(0));
        Check.due("P18 word 1 of 1", NO_INDEX, () -> x.uses(1));
        Check.due("P18 word -1", NO_INDEX, () -> x.uses(-1));
        TelexReceiver full = new TelexReceiver();
        Check.learnTwenty(full);
        Check.due("P18 word 19 of 20", 0, () -> full.uses(19));
        Check.due("P18 word 20 of 20", NO_INDEX, () -> full.uses(20));
    }

    public static void main(String[] args) {
        testUnshiftOnSpace();
        testUnshiftReturnsTheSettingBefore();
        testLearnEmptiesTheBuffer();
        testLearnReturnsTheNumberOfWords();
        testLearnNoWord();
        testLearnWithoutRoom();
        testForget();
        testForgetReturnsTheLength();
        testForgetNoWord();
        testWords();
        testWordLetter();
        testWordLetterOutOfRange();
        testUses();
        testUsesOfNoWord();
        Check.finish();
    }
}
