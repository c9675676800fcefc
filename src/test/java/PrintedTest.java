/** Promises 19 to 30: what is printed. */
public final class PrintedTest {
    private static final Object NO_INDEX = IndexOutOfBoundsException.class;

    private static void printed(String what, TelexReceiver x, String text, String kinds, int shift) {
        Check.due(what + ": printed", text, () -> Check.printed(x));
        Check.due(what + ": kinds", kinds, () -> Check.kinds(x));
        Check.due(what + ": receiverShift()", shift, x::receiverShift);
    }

    private static void testPrinted() {
        TelexReceiver x = Got.receiver("", 23, 5, 27, 30, 2, 12, 28, 31, 11);
        printed("P20", x, "we 2,\nk", "4 5 4", 0);
        Check.due("P19 printedLength()", 7, x::printedLength);
        Check.due("P20 behind the last", NO_INDEX, () -> x.printed(7));
        Check.due("P20 before the first", NO_INDEX, () -> x.printed(-1));
        Check.due("P20 far off", NO_INDEX, () -> x.printed(Integer.MAX_VALUE));
        printed("P20 a blank and calls print nothing", Got.receiver("", 11, 0, 29, 12, 30, 29, 30, 31), "kl", "4 4", 0);
        TelexReceiver letters = new TelexReceiver();
        Check.send(letters, "abcdefghijklmnopqrstuvwxyz \n1234567890.,:;?!'()/-+=&%\"");
        Check.due("P20 each sign", "abcdefghijklmnopqrstuvwxyz \n1234567890.,:;?!'()/-+=&%\"",
                () -> Check.printed(letters));
        Check.due("P29 nothing is wrong", 0, letters::wrongCharacters);
    }

    private static void testSegments() {
        TelexReceiver x = Got.receiver("", 11, 12, 0, 13, 31, 14, 30, 5, 12, 27, 6, 11, 28, 7, 29, 29, 8, 9, 11);
        Check.due("P21 segments()", 7, x::segments);
        Check.due("P22 lengths", "2 1 1 2 2 1 3", () -> Check.lengths(x));
        Check.due("P23 kinds", "4 4 4 5 5 1 5", () -> Check.kinds(x));
        Check.due("P22 behind the last", NO_INDEX, () -> x.segmentLength(7));
        Check.due("P22 before the first", NO_INDEX, () -> x.segmentLength(-1));
        Check.due("P23 behind the last", NO_INDEX, () -> x.segmentKind(7));
        Check.due("P23 before the first", NO_INDEX, () -> x.segmentKind(-1));
        Check.due("P24 guesses()", 0, x::guesses);
        Check.due("P25 doubtful()", 6, x::doubtful);
        Check.due("P30 plausibility()", 1.0 / 7.0, x::plausibility);
        TelexReceiver none = Got.receiver("", 27, 28, 0, 29, 30, 31);
        Check.due("P21 no segments", 0, none::segments);
        Check.due("P30 no segments", 1.0, none::plausibility);
        TelexReceiver together = new TelexReceiver();
        together.setFault(2, 0);
        Check.send(together, "we a");
        Check.send(together, "b");
        Check.due("P22 a lost space joins", "4", () -> Check.lengths(together));
        TelexReceiver longOne = new TelexReceiver();
        for (int i = 0; i < 4; i++) {
            Check.send(longOne, "abcdefghijabcdefghijabcdefghijabcdefghijabcdefghij");
        }
        Check.due("P22 one segment of all codes", "200", () -> Check.lengths(longOne));
        Check.due("P19 all codes are printed", 200, longOne::printedLength);
        Check.due("P20 the last one", (int) '0', () -> longOne.printed(199));
    }

    private static void testKinds() {
        printed("P23 a word in letters", Got.receiver("we", 23, 5), "we", "0", 0);
        printed("P23 a word in figures is guessed", Got.receiver("we", 30, 23, 5), "we", "2", 0);
        printed("P23 digits in figures", Got.receiver("", 30, 1, 10), "10", "1", 1);
        printed("P23 digits in letters are guessed", Got.receiver("", 1, 10), "10", "3", 1);
        printed("P23 letters, doubtful", Got.receiver("we", 23, 5, 5), "wee", "4", 0);
        printed("P23 figures, doubtful", Got.receiver("we", 30, 23), "=", "5", 1);
        printed("P23 both, in letters", Got.receiver("be", 2, 5), "be", "0", 0);
        printed("P23 both, in figures", Got.receiver("be", 30, 2, 5), "25", "1", 1);
        printed("P23 no digit is 11", Got.receiver("", 11), "k", "4", 0);
        printed("P23 a digit and a sign", Got.receiver("", 10, 11), "jk", "4", 0);
        printed("P23 a word's beginning", Got.receiver("you", 25, 15), "yo", "4", 0);
        printed("P23 a word's end", Got.receiver("you", 15, 21), "ou", "4", 0);
        printed("P23 six letters", Got.receiver("quotas", 17, 21, 15, 20, 1, 19), "quotas", "0", 0);
        printed("P23 seven letters", Got.receiver("quotas", 17, 21, 15, 20, 1, 19, 1), "quotasa", "4", 0);
        printed("P23 thirteen letters", Got.receiver("aaaaaa", 1, 1, 1, 1, 1, 1, 11, 1, 1, 1, 1, 1, 1), "aaaaaakaaaaaa", "4", 0);
    }

    private static void testGuesses() {
        TelexReceiver x = Got.receiver("we", 30, 23, 5, 28, 1, 28, 23, 5, 27, 11, 29);
        printed("P24 in turn", x, "we\n1\nwe k", "2 3 2 4", 0);
        Check.due("P24 guesses()", 3, x::guesses);
        Check.due("P25 doubtful()", 1, x::doubtful);
        Check.due("P27 a guess moves the question", 1, x::questions);
        Check.due("P26 no bell", 0, x::bells);
        Check.due("P30 plausibility()", 0.75, x::plausibility);
        TelexReceiver bell = Got.receiver("", 1, 29);
        Check.due("P26 a guess moves the bell", 1, bell::bells);
        Check.due("P27 no question", 0, bell::questions);
        x.forget(0);
        printed("P24 decoded anew by the dictionary", x, "=5\n1\n=5 .", "5 1 5 5", 1);
        Check.due("P24 no guesses", 0, x::guesses);
        Check.due("P25 doubtful() now", 3, x::doubtful);
        Check.due("P26 a bell now", 1, x::bells);
        Check.due("P27 no question now", 0, x::questions);
        Check.learn(x, "we");
        printed("P24 learnt again", x, "we\n1\nwe k", "2 3 2 4", 0);
    }

    private static void testBells() {
        TelexReceiver x = Got.receiver("", 29, 30, 29, 29, 27, 29, 28, 29, 31, 29, 29, 0, 29);
        Check.due("P26 bells()", 4, x::bells);
        Check.due("P27 questions()", 4, x::questions);
        x.unshiftOnSpace(true);
        Check.due("P26 bells() with unshifting", 2, x::bells);
        Check.due("P27 questions() with unshifting", 6, x::questions);
    }

    private static void testReceiverShift() {
        Check.due("P28 figures", 1, Got.receiver("", 30)::receiverShift);
        Check.due("P28 letters", 0, Got.receiver("", 30, 31)::receiverShift);
        TelexReceiver x = Got.receiver("", 30, 1, 27);
        Check.due("P28 a space", 1, x::receiverShift);
        x.unshiftOnSpace(true);
        Check.due("P28 a space that unshifts", 0, x::receiverShift);
        TelexReceiver line = Got.receiver("", 30, 11, 28);
        line.unshiftOnSpace(true);
        Check.due("P28 a line break", 1, line::receiverShift);
    }

    private static void testUnshiftBeforeSegment() {
        TelexReceiver x = Got.receiver("we", 30, 11, 27, 23, 5, 27, 11);
        printed("P23 without unshifting", x, ". we k", "5 2 4", 0);
        x.unshiftOnSpace(true);
        printed("P23 with unshifting", x, ". we k", "5 0 4", 0);
    }

    private static void wrong(int want, String text, int... faults) {
        TelexReceiver x = new TelexReceiver();
        for (int i = 0; i + 1 < faults.length; i += 2) {
            x.setFault(faults[i], faults[i + 1]);
        }
        Check.send(x, text);
        Check.due("P29 wrongCharacters() of " + text, want, x::wrongCharacters);
    }

    private static void testWrongCharacters() {
        wrong(0, "k @l\n12#.");
        wrong(1, "klm", 1, 2);
        wrong(1, "klm", 2, 0);
        wrong(3, "klm", 0, 0);
        wrong(3, "kl,", 0, 0);
        wrong(2, "kkl", 0, 0);
        wrong(1, "kkk", 0, 0);
        wrong(1, "k@", 1, 3);
        wrong(1, "@", 0, 3);
        wrong(2, "@k", 0, 3);
        wrong(0, "@k", 0, 2);
        wrong(1, "k ", 1, 0);
        wrong(1, "\nk\n", 2, 0);
        wrong(3, ".,:", 0, 0);
        TelexReceiver x = new TelexReceiver();
        x.unshiftOnSpace(true);
        Check.send(x, ". .");
        Check.due("P29 both unshift", 0, x::wrongCharacters);
        x.unshiftOnSpace(false);
        Check.due("P29 the receiver no longer unshifts", 0, x::wrongCharacters);
        TelexReceiver y = new TelexReceiver();
        Check.send(y, ". .");
        y.unshiftOnSpace(true);
        Check.due("P29 the receiver unshifts since", 1, y::wrongCharacters);
        Check.send(y, "k");
        Check.due("P29 and goes on", 1, y::wrongCharacters);
    }

    private static void testPlausibility() {
        TelexReceiver x = Got.receiver("we", 23, 5, 27, 11, 27, 12);
        Check.due("P30 one of three", 1.0 / 3.0, x::plausibility);
        x.forget(0);
        Check.due("P30 none", 0.0, x::plausibility);
        Check.due("P30 all", 1.0, Got.receiver("we", 23, 5, 27, 1)::plausibility);
    }

    public static void main(String[] args) {
        testPrinted();
        testSegments();
        testKinds();
        testGuesses();
        testBells();
        testReceiverShift();
        testUnshiftBeforeSegment();
        testWrongCharacters();
        testPlausibility();
        Check.finish();
    }
}
