/** Promises 13 to 18: unshifting and the dictionary. */
public final class ReceiverTest {
    private static final Object NO_INDEX = IndexOutOfBoundsException.class;
    private static final Object NO_WORD = IllegalArgumentException.class;
    private static final Object FULL = IllegalStateException.class;

    private static void testUnshift() {
        TelexReceiver x = new TelexReceiver();
        Check.send(x, "7 8\n9");
        Check.due("P13 before", "7 8\n9", () -> Check.printed(x));
        Check.due("P13 kinds before", "1 1 1", () -> Check.kinds(x));
        Check.due("P13 unshiftOnSpace(true)", false, () -> x.unshiftOnSpace(true));
        Check.due("P13 digits are guessed now", "1 3 1", () -> Check.kinds(x));
        Check.due("P13 unshiftOnSpace(true) again", true, () -> x.unshiftOnSpace(true));
        Check.due("P13 is undoable", 3, x::savedStates);
        Check.due("P13 unshiftOnSpace(false)", true, () -> x.unshiftOnSpace(false));
        Check.due("P13 unshiftOnSpace(false) again", false, () -> x.unshiftOnSpace(false));
        Check.due("P13 as before", "1 1 1", () -> Check.kinds(x));
        Check.send(x, " ");
        Check.due("P13 the space keeps the shift", 1, x::receiverShift);
        x.unshiftOnSpace(true);
        Check.due("P13 the space unshifts", 0, x::receiverShift);
        Check.due("P13 but the sender sent it in figures", 1, x::senderShift);
    }

    private static void testLearn() {
        TelexReceiver x = new TelexReceiver();
        Check.due("P14 learn() of nothing", NO_WORD, x::learn);
        String[] wrong = {"abcdefg", "1", "we1", "1we", "we ", " ", "@", "we@", "a#", "\n", "a.b"};
        for (String text : wrong) {
            Check.appendAll(x, text);
            Check.due("P14 learn() of " + text, NO_WORD, x::learn);
            Check.due("P14 the buffer stays", text.length(), x::clearBuffer);
        }
        Check.due("P14 nothing is saved", 0, x::savedStates);
        Check.due("P14 learn a", 1, () -> Check.learn(x, "a"));
        Check.due("P14 the buffer is empty", 0, x::clearBuffer);
        Check.due("P14 learn zyxwvu", 2, () -> Check.learn(x, "zyxwvu"));
        Check.due("P14 learn a again", 2, () -> Check.learn(x, "a"));
        Check.due("P14 the buffer is empty again", 0, x::clearBuffer);
        Check.due("P14 is undoable", 3, x::savedStates);
        Check.due("P14 learn aa", 3, () -> Check.learn(x, "aa"));
        Check.due("P14 learn ab", 4, () -> Check.learn(x, "ab"));
        Check.due("P14 learn ba", 5, () -> Check.learn(x, "ba"));
        Check.due("P16 words()", 5, x::words);
    }

    private static void testTwentyWords() {
        TelexReceiver x = new TelexReceiver();
        for (int i = 0; i < 20; i++) {
            int count = i + 1;
            Check.due("P14 word " + count, count, () -> Check.learn(x, "" + (char) ('a' + count)));
        }
        Check.appendAll(x, "zz");
        Check.due("P14 the 21st word", FULL, x::learn);
        Check.due("P14 the buffer stays", 2, x::clearBuffer);
        Check.due("P14 a known word", 20, () -> Check.learn(x, "b"));
        Check.appendAll(x, "z1");
        Check.due("P14 no word, in a full dictionary", NO_WORD, x::learn);
        x.clearBuffer();
        Check.due("P16 words()", 20, x::words);
        Check.due("P15 forget the last", 1, () -> x.forget(19));
        Check.due("P14 room again", 20, () -> Check.learn(x, "zz"));
        Check.due("P17 the new word is the last", (int) 'z', () -> x.wordLetter(19, 1));
    }

    private static void testForget() {
        TelexReceiver x = new TelexReceiver();
        Check.due("P15 forget(0) of none", NO_INDEX, () -> x.forget(0));
        Check.learn(x, "we");
        Check.learn(x, "you");
        Check.learn(x, "tip");
        Check.learn(x, "quoted");
        Check.due("P15 forget(4)", NO_INDEX, () -> x.forget(4));
        Check.due("P15 forget(-1)", NO_INDEX, () -> x.forget(-1));
        Check.due("P15 nothing is saved", 4, x::savedStates);
        Check.due("P15 forget(1)", 3, () -> x.forget(1));
        Check.due("P15 is undoable", 5, x::savedStates);
        Check.due("P16 words()", 3, x::words);
        Check.due("P15 the numbers decrease", (int) 't', () -> x.wordLetter(1, 0));
        Check.due("P15 the numbers decrease", (int) 'q', () -> x.wordLetter(2, 0));
        Check.due("P15 those before stay", (int) 'w', () -> x.wordLetter(0, 0));
        Check.due("P15 forget(2)", 6, () -> x.forget(2));
        Check.due("P15 forget(2) again", NO_INDEX, () -> x.forget(2));
        Check.due("P15 forget(0)", 2, () -> x.forget(0));
        Check.due("P15 forget the last one", 3, () -> x.forget(0));
        Check.due("P16 words()", 0, x::words);
    }

    private static void testWordLetter() {
        TelexReceiver x = new TelexReceiver();
        Check.learn(x, "quotaz");
        Check.learn(x, "a");
        String word = "quotaz";
        for (int i = 0; i < 6; i++) {
            int index = i;
            Check.due("P17 letter " + index, (int) word.charAt(index), () -> x.wordLetter(0, index));
            Check.due("P17 letter " + index + " of a", index == 0 ? 'a' : -1, () -> x.wordLetter(1, index));
        }
        Check.due("P17 index 6", NO_INDEX, () -> x.wordLetter(0, 6));
        Check.due("P17 index -1", NO_INDEX, () -> x.wordLetter(0, -1));
        Check.due("P17 index 6 of a", NO_INDEX, () -> x.wordLetter(1, 6));
        Check.due("P17 word 2", NO_INDEX, () -> x.wordLetter(2, 0));
        Check.due("P17 word -1", NO_INDEX, () -> x.wordLetter(-1, 0));
        Check.due("P17 far off", NO_INDEX, () -> x.wordLetter(Integer.MAX_VALUE, Integer.MIN_VALUE));
    }

    private static void testUses() {
        TelexReceiver x = new TelexReceiver();
        Check.learn(x, "we");
        Check.learn(x, "e");
        Check.send(x, "we e we wee we");
        Check.due("P18 uses(0)", 3, () -> x.uses(0));
        Check.due("P18 uses(1)", 1, () -> x.uses(1));
        Check.due("P18 uses(2)", NO_INDEX, () -> x.uses(2));
        Check.due("P18 uses(-1)", NO_INDEX, () -> x.uses(-1));
        Check.send(x, " 5");
        Check.due("P18 digits in the figures shift are no use of e", 1, () -> x.uses(1));
        Check.due("P18 nor of we", 3, () -> x.uses(0));
        Check.send(x, " we");
        Check.due("P18 one more use", 4, () -> x.uses(0));
        x.forget(0);
        Check.due("P18 numbers decrease", 1, () -> x.uses(0));
        Check.due("P18 learnt anew", 2, () -> Check.learn(x, "we"));
        Check.due("P18 uses of it", 4, () -> x.uses(1));
    }

    private static void testUseByGuess() {
        TelexReceiver x = new TelexReceiver();
        Check.learn(x, "we");
        x.setFault(4, 0);
        Check.send(x, "1.\nwe 2");
        Check.due("P18 the shift was lost", "30 1 11 28 23 5 27 30 2", () -> Check.receivedCodes(x));
        Check.due("P18 we is guessed", "5 2 1", () -> Check.kinds(x));
        Check.due("P18 a guess to letters is a use", 1, () -> x.uses(0));
    }

    public static void main(String[] args) {
        testUnshift();
        testLearn();
        testTwentyWords();
        testForget();
        testWordLetter();
        testUses();
        testUseByGuess();
        Check.finish();
    }
}
