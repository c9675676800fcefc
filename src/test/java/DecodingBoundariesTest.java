/** The term "Decoding": each sentence that names a boundary, which stands above its test. */
public final class DecodingBoundariesTest {
    private static final Object BAD_ARGUMENT = IllegalArgumentException.class;
    private static final Object BAD_STATE = IllegalStateException.class;

    private static void printed(String what, String text, String kinds, TelexReceiver x) {
        Check.due(what + ": printed", text, () -> Check.printed(x));
        Check.due(what + ": kinds", kinds, () -> Check.kinds(x));
    }

    // "The receiver decodes all codes that were received, in their order, and begins with the letters shift."
    private static void testBeginsWithLetters() {
        printed("of nothing", "", "", new TelexReceiver());
        printed("the first code", "k", "4", Got.receiver("", 11));
        TelexReceiver x = new TelexReceiver();
        x.setFault(0, 0);
        Check.send(x, ".");
        printed("in letters though the sender is in figures", "k", "4", x);
        Check.due("the sender's shift", 1, x::senderShift);
        Check.due("the receiver's shift", 0, x::receiverShift);
        Check.send(x, ",");
        printed("all codes, not those of the last call alone", "kl", "4", x);
    }

    // "If it unshifts on spaces (at first it does not), its shift becomes letters at each code 27."
    private static void testUnshiftsAtEachSpace() {
        TelexReceiver x = Got.receiver("", 27, 30, 11, 27, 11, 30, 11, 28, 11, 27);
        printed("at first", " . ..\n. ", "5 5 5 5", x);
        Check.due("the shift at first", 1, x::receiverShift);
        x.unshiftOnSpace(true);
        printed("unshifting", " . k.\n. ", "5 4 5 5", x);
        Check.due("the shift behind the last space", 0, x::receiverShift);
        TelexReceiver spaces = Got.receiver("", 30, 27, 27, 11, 30, 27, 11);
        spaces.unshiftOnSpace(true);
        printed("at each one", "  k k", "4 4", spaces);
    }

    // "A segment is a sequence of codes from 1 to 26 without another code between them (also a blank and
    // each shift end it), and as long as possible."
    private static void testSegments() {
        int[] others = {0, 27, 28, 29, 30, 31};
        for (int code : others) {
            TelexReceiver x = Got.receiver("", 11, 12, code, 11);
            Check.due("code " + code + " ends a segment", "2 1", () -> Check.lengths(x));
            TelexReceiver y = Got.receiver("", code, 11, code, code);
            Check.due("code " + code + " is none itself", "1", () -> Check.lengths(y));
        }
        for (int code = 1; code <= 26; code++) {
            TelexReceiver x = Got.receiver("", 11, code, 12);
            Check.due("code " + code + " does not end a segment", "3", () -> Check.lengths(x));
        }
        TelexReceiver joined = new TelexReceiver();
        joined.setFault(1, 0);
        Check.send(joined, "k l");
        Check.send(joined, "m");
        Check.due("as long as possible, over a lost space and two calls", "3", () -> Check.lengths(joined));
        TelexReceiver all = new TelexReceiver();
        Check.sendInParts(all, "k".repeat(200));
        Check.due("as long as all codes", "200", () -> Check.lengths(all));
        TelexReceiver most = new TelexReceiver();
        Check.sendInParts(most, "k ".repeat(100));
        Check.due("as many as can be", 100, most::segments);
        Check.due("the last of them", 1, () -> most.segmentLength(99));
    }

    // "The segments are numbered from 0."
    private static void testNumbersFrom0() {
        TelexReceiver x = Got.receiver("", 27, 11, 27, 11, 11, 27, 11, 11, 11);
        Check.due("segment 0", 1, () -> x.segmentLength(0));
        Check.due("segment 1", 2, () -> x.segmentLength(1));
        Check.due("segment 2", 3, () -> x.segmentLength(2));
    }

    // "The dictionary contains at most 20 words of 1 to 6 letters, in the order in which they were added."
    private static void test20WordsOf1To6Letters() {
        TelexReceiver x = new TelexReceiver();
        Check.due("1 letter", 1, () -> Check.learn(x, "z"));
        Check.due("6 letters", 2, () -> Check.learn(x, "abcdef"));
        Check.due("7 letters", BAD_ARGUMENT, () -> Check.learn(x, "abcdefg"));
        x.clearBuffer();
        for (int i = 3; i <= 20; i++) {
            int count = i;
            Check.due("word " + count, count, () -> Check.learn(x, "" + (char) ('a' + count)));
        }
        Check.due("the 21st word", BAD_STATE, () -> Check.learn(x, "b"));
        Check.due("the first added", (int) 'z', () -> x.wordLetter(0, 0));
        Check.due("the second added", (int) 'a', () -> x.wordLetter(1, 0));
        Check.due("the last added", (int) 'u', () -> x.wordLetter(19, 0));
    }

    // "It is empty at first."
    private static void testEmptyDictionary() {
        TelexReceiver x = Got.receiver("", 11);
        Check.due("words()", 0, x::words);
        printed("no word is known", "k", "4", x);
    }

    // "The first reading is plausible if it is a word of the dictionary"
    private static void testWords() {
        printed("1 letter", "k", "0", Got.receiver("k", 11));
        printed("6 letters", "klmnop", "0", Got.receiver("klmnop", 11, 12, 13, 14, 15, 16));
        printed("the first 5 of 6 letters", "klmno", "4", Got.receiver("klmnop", 11, 12, 13, 14, 15));
        printed("the last 5 of 6 letters", "lmnop", "4", Got.receiver("klmnop", 12, 13, 14, 15, 16));
        printed("7 letters", "klmnopk", "4", Got.receiver("klmnop k", 11, 12, 13, 14, 15, 16, 11));
        for (int code = 1; code <= 26; code++) {
            TelexReceiver x = Got.receiver("klmnop", 11, 12, 13, 14, 15, 16, code);
            Check.due("6 letters and code " + code + " behind them", 4, () -> x.segmentKind(0));
            TelexReceiver y = Got.receiver("klmnop", code, 11, 12, 13, 14, 15, 16);
            Check.due("6 letters and code " + code + " before them", 4, () -> y.segmentKind(0));
        }
        printed("the last letter differs", "klmnoq", "4", Got.receiver("klmnop", 11, 12, 13, 14, 15, 17));
        printed("the first letter differs", "llmnop", "4", Got.receiver("klmnop", 12, 12, 13, 14, 15, 16));
        printed("the order differs", "lk", "4", Got.receiver("kl", 12, 11));
        printed("a letter twice", "kk", "4", Got.receiver("k", 11, 11));
        TelexReceiver x = new TelexReceiver();
        Check.learnTwenty(x);
        Got.codes(x, 1, 27, 20, 27, 21);
        printed("the first and the last of 20 words", "a t u", "0 0 4", x);
    }

    // "the second one if it consists of digits alone."
    private static void testDigitsAlone() {
        printed("1 digit", "1", "1", Got.receiver("", 30, 1));
        printed("each digit", "1234567890", "1", Got.receiver("", 30, 1, 2, 3, 4, 5, 6, 7, 8, 9, 10));
        printed("a sign alone", ".", "5", Got.receiver("", 30, 11));
        printed("a sign as the first", ".1", "5", Got.receiver("", 30, 11, 1));
        printed("a sign in the middle", "1.2", "5", Got.receiver("", 30, 1, 11, 2));
        printed("a sign as the last", "0.", "5", Got.receiver("", 30, 10, 11));
        TelexReceiver x = new TelexReceiver();
        Check.sendInParts(x, "7".repeat(199));
        Check.due("199 digits", 1, () -> x.segmentKind(0));
        Check.due("one segment of 199", 199, () -> x.segmentLength(0));
        TelexReceiver y = new TelexReceiver();
        Check.sendInParts(y, "7".repeat(198) + ".");
        Check.due("198 digits and a sign", 5, () -> y.segmentKind(0));
        for (int code = 1; code <= 26; code++) {
            TelexReceiver alone = Got.receiver("", 30, code);
            Check.due("code " + code + " alone", code <= 10 ? 1 : 5, () -> alone.segmentKind(0));
        }
    }

    // "If the reading in the shift of the receiver is plausible, this reading is printed."
    private static void testPlausibleInTheShift() {
        printed("both are, in letters", "ab", "0", Got.receiver("ab", 1, 2));
        printed("both are, in figures", "12", "1", Got.receiver("ab", 30, 1, 2));
        printed("the shift stays letters", "ab k", "0 4", Got.receiver("ab", 1, 2, 27, 11));
        printed("the shift stays figures", "12 .", "1 5", Got.receiver("ab", 30, 1, 2, 27, 11));
    }

    // "Otherwise, if the other reading is plausible, the other reading is printed, and the receiver's shift
    // changes to the other one from this segment on; this is a guess."
    private static void testGuesses() {
        printed("digits in letters", "k\n12\n.", "4 3 5", Got.receiver("", 11, 28, 1, 2, 28, 11));
        printed("a word in figures", ".\nwe\nk", "5 2 4", Got.receiver("we", 30, 11, 28, 23, 5, 28, 11));
        printed("the next one is no guess", "1 2", "3 1", Got.receiver("", 1, 27, 2));
        printed("the next word is no guess", "we we", "2 0", Got.receiver("we", 30, 23, 5, 27, 23, 5));
        printed("a guess as the last", "k 1", "4 3", Got.receiver("", 11, 27, 1));
        Check.due("the shift behind it", 1, Got.receiver("", 11, 27, 1)::receiverShift);
        Check.due("the shift behind a word", 0, Got.receiver("we", 30, 23, 5)::receiverShift);
        printed("a shift in front is overruled by a guess", "1.", "3 5", Got.receiver("", 31, 1, 0, 11));
    }

    // "Otherwise, the reading in the shift of the receiver is printed, and the segment is doubtful."
    private static void testDoubtful() {
        printed("a letter that is no digit, behind a digit", "ak", "4", Got.receiver("", 1, 11));
        printed("a sign that is no digit, behind a digit", "1.", "5", Got.receiver("", 30, 1, 11));
        printed("two words without a gap", "wewe", "4", Got.receiver("we", 23, 5, 23, 5));
        printed("a word and a number without a gap", "=512", "5", Got.receiver("we", 30, 23, 5, 1, 2));
        printed("the next ones are read in the same shift", "kl kl", "4 4", Got.receiver("k", 11, 12, 27, 11, 12));
        Check.due("the shift stays letters", 0, Got.receiver("", 11, 1)::receiverShift);
        Check.due("the shift stays figures", 1, Got.receiver("", 30, 11, 1)::receiverShift);
    }

    // "All this is decoded anew whenever something of it changes (codes that are received, words,
    // unshifting), so a method always tells it by the present dictionary."
    private static void testDecodedAnew() {
        TelexReceiver x = Got.receiver("", 30, 11, 27, 23);
        printed("before", ". =", "5 5", x);
        Check.send(x, "e");
        printed("one code more", ". =5", "5 5", x);
        Check.learn(x, "we");
        printed("a word more", ". we", "5 2", x);
        x.unshiftOnSpace(true);
        printed("with unshifting", ". we", "5 0", x);
        x.forget(0);
        printed("a word less", ". we", "5 4", x);
        x.unshiftOnSpace(false);
        printed("without unshifting", ". =5", "5 5", x);
        x.undo();
        printed("unshifting again by undo()", ". we", "5 4", x);
        x.undo();
        printed("the word again by undo()", ". we", "5 0", x);
        x.undo();
        printed("unshifting undone", ". we", "5 2", x);
        x.undo();
        printed("the word undone", ". =5", "5 5", x);
        x.undo();
        printed("the code undone", ". =", "5 5", x);
    }

    // The same: what is counted is counted anew, not on top of what was counted before.
    private static void testCountedAnew() {
        TelexReceiver x = Got.receiver("", 29, 1, 29, 28, 11);
        for (int i = 0; i < 3; i++) {
            x.unshiftOnSpace(true);
            Check.send(x, "\n");
            Check.due("questions()", 1, x::questions);
            Check.due("bells()", 1, x::bells);
            Check.due("guesses()", 1, x::guesses);
            Check.due("doubtful()", 1, x::doubtful);
            Check.due("segments()", 2, x::segments);
        }
    }

    public static void main(String[] args) {
        testBeginsWithLetters();
        testUnshiftsAtEachSpace();
        testSegments();
        testNumbersFrom0();
        test20WordsOf1To6Letters();
        testEmptyDictionary();
        testWords();
        testDigitsAlone();
        testPlausibleInTheShift();
        testGuesses();
        testDoubtful();
        testDecodedAnew();
        testCountedAnew();
        Check.finish();
    }
}
