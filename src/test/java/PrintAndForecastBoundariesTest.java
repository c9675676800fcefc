/** Promises 19 to 32: each sentence that names a boundary, which stands above its test. */
public final class PrintAndForecastBoundariesTest {
    private static final Object NO_INDEX = IndexOutOfBoundsException.class;
    private static final Object BAD_ARGUMENT = IllegalArgumentException.class;

    // Promise 19: "Returns the number of characters that are printed, including spaces and line breaks."
    private static void testPrintedLength() {
        Check.due("P19 nothing", 0, new TelexReceiver()::printedLength);
        Check.due("P19 a space", 1, Got.receiver("", 27)::printedLength);
        Check.due("P19 a line break", 1, Got.receiver("", 28)::printedLength);
        Check.due("P19 codes that print nothing", 0, Got.receiver("", 0, 29, 30, 31)::printedLength);
        Check.due("P19 each kind", 4, Got.receiver("", 0, 11, 27, 29, 30, 1, 28, 31)::printedLength);
        TelexReceiver most = new TelexReceiver();
        Check.sendInParts(most, "k \n".repeat(66) + "kk");
        Check.due("P19 the most", 200, most::printedLength);
    }

    // Promise 20: "Throws IndexOutOfBoundsException if there is no such character"
    private static void testPrinted() {
        Check.due("P20 index 0 of none", NO_INDEX, () -> new TelexReceiver().printed(0));
        TelexReceiver x = Got.receiver("", 29, 11, 30, 28);
        Check.due("P20 index 0", (int) 'k', () -> x.printed(0));
        Check.due("P20 index 1, the last", 10, () -> x.printed(1));
        int[] none = {-1, 2, 3, 4, Integer.MIN_VALUE, Integer.MAX_VALUE};
        for (int index : none) {
            Check.due("P20 index " + index, NO_INDEX, () -> x.printed(index));
        }
        x.undo();
        Check.due("P20 index 0 behind undo()", NO_INDEX, () -> x.printed(0));
        TelexReceiver most = new TelexReceiver();
        Check.sendInParts(most, "k".repeat(199) + " ");
        Check.due("P20 index 199", 32, () -> most.printed(199));
        Check.due("P20 index 200", NO_INDEX, () -> most.printed(200));
    }

    // Promise 21: "Returns the number of segments."
    private static void testSegments() {
        Check.due("P21 of nothing", 0, new TelexReceiver()::segments);
        Check.due("P21 of no sign", 0, Got.receiver("", 27, 28, 29, 30, 31, 0)::segments);
        Check.due("P21 of one sign", 1, Got.receiver("", 11)::segments);
        Check.due("P21 at both ends", 2, Got.receiver("", 11, 27, 27, 11)::segments);
    }

    // Promise 22: "Returns the number of codes." "Throws IndexOutOfBoundsException if there is no such
    // segment"
    private static void testSegmentLength() {
        Check.due("P22 segment 0 of none", NO_INDEX, () -> new TelexReceiver().segmentLength(0));
        Check.due("P22 segment 0 of no sign", NO_INDEX, () -> Got.receiver("", 27).segmentLength(0));
        TelexReceiver x = Got.receiver("", 11, 12, 27, 13);
        Check.due("P22 the first", 2, () -> x.segmentLength(0));
        Check.due("P22 the last", 1, () -> x.segmentLength(1));
        int[] none = {-1, 2, Integer.MIN_VALUE, Integer.MAX_VALUE};
        for (int segment : none) {
            Check.due("P22 segment " + segment, NO_INDEX, () -> x.segmentLength(segment));
        }
    }

    // Promise 23: "Returns the shift in which it is printed, 0 or 1; plus 2 if it is a guess; plus 4 if it is
    // doubtful."
    private static void testEachKind() {
        Check.due("P23 letters", 0, () -> Got.receiver("we", 23, 5).segmentKind(0));
        Check.due("P23 figures", 1, () -> Got.receiver("we", 30, 2, 5).segmentKind(0));
        Check.due("P23 letters, a guess", 2, () -> Got.receiver("we", 30, 23, 5).segmentKind(0));
        Check.due("P23 figures, a guess", 3, () -> Got.receiver("we", 2, 5).segmentKind(0));
        Check.due("P23 letters, doubtful", 4, () -> Got.receiver("we", 23, 11).segmentKind(0));
        Check.due("P23 figures, doubtful", 5, () -> Got.receiver("we", 30, 23, 11).segmentKind(0));
    }

    // Promise 23: "Throws IndexOutOfBoundsException if there is no such segment"
    private static void testKindOfNoSegment() {
        Check.due("P23 segment 0 of none", NO_INDEX, () -> new TelexReceiver().segmentKind(0));
        TelexReceiver x = Got.receiver("", 11, 27, 1);
        Check.due("P23 the last", 3, () -> x.segmentKind(1));
        int[] none = {-1, 2, Integer.MIN_VALUE, Integer.MAX_VALUE};
        for (int segment : none) {
            Check.due("P23 segment " + segment, NO_INDEX, () -> x.segmentKind(segment));
        }
    }

    // Promise 24: "Returns the number of guesses." Promise 25: "Returns the number of doubtful segments."
    private static void testGuessesAndDoubtful() {
        Check.due("P24 of nothing", 0, new TelexReceiver()::guesses);
        Check.due("P25 of nothing", 0, new TelexReceiver()::doubtful);
        TelexReceiver x = Got.receiver("we", 23, 5, 27, 1, 27, 2, 27, 23, 5, 27, 11, 30, 11);
        Check.due("P24 to each shift", 2, x::guesses);
        Check.due("P25 in each shift", 2, x::doubtful);
        TelexReceiver all = new TelexReceiver();
        Check.sendInParts(all, "k ".repeat(100));
        Check.due("P24 none of 100", 0, all::guesses);
        Check.due("P25 all of 100", 100, all::doubtful);
        Check.learn(all, "k");
        Check.due("P25 none of 100", 0, all::doubtful);
        TelexReceiver guesses = new TelexReceiver();
        Check.learn(guesses, "k");
        Check.sendInParts(guesses, "k a ".repeat(50));
        Check.due("P24 all but the first of 100", 99, guesses::guesses);
    }

    // Promise 26: "Returns the number of codes 29 that are received in the figures shift." Promise 27: "... in
    // the letters shift."
    private static void testBellsAndQuestions() {
        Check.due("P26 of nothing", 0, new TelexReceiver()::bells);
        Check.due("P27 of nothing", 0, new TelexReceiver()::questions);
        TelexReceiver x = Got.receiver("", 29, 30, 29, 29, 31, 29, 29, 27, 29);
        Check.due("P26 bells()", 2, x::bells);
        Check.due("P27 questions()", 4, x::questions);
        TelexReceiver lost = new TelexReceiver();
        lost.setFault(1, 0);
        lost.setFault(2, 0);
        Check.send(lost, "@##");
        Check.due("P26 a lost shift makes a question, not a bell", 0, lost::bells);
        Check.due("P27 of what is received alone", 2, lost::questions);
        TelexReceiver made = new TelexReceiver();
        made.setFault(0, 3);
        Check.send(made, "y");
        Check.due("P27 the wire made 29 of 25", 1, made::questions);
        Check.due("P26 behind a guess to figures", 1, Got.receiver("", 1, 29)::bells);
        Check.due("P27 behind a guess to letters", 1, Got.receiver("we", 30, 23, 5, 29)::questions);
        Check.due("P26 behind a doubtful segment in figures", 1, Got.receiver("", 30, 11, 29)::bells);
        TelexReceiver spaces = Got.receiver("", 30, 27, 29);
        spaces.unshiftOnSpace(true);
        Check.due("P26 behind a space that unshifts", 0, spaces::bells);
        Check.due("P27 behind a space that unshifts", 1, spaces::questions);
    }

    // Promise 28: "Returns the shift of the receiver behind all codes that were received."
    private static void testReceiverShift() {
        Check.due("P28 of nothing", 0, new TelexReceiver()::receiverShift);
        Check.due("P28 behind 30 as the last", 1, Got.receiver("", 11, 30)::receiverShift);
        Check.due("P28 behind 31 as the last", 0, Got.receiver("", 30, 11, 31)::receiverShift);
        Check.due("P28 behind a guess as the last", 1, Got.receiver("", 31, 1)::receiverShift);
        TelexReceiver x = Got.receiver("", 30, 27);
        Check.due("P28 behind a space as the last", 1, x::receiverShift);
        x.unshiftOnSpace(true);
        Check.due("P28 behind a space that unshifts", 0, x::receiverShift);
    }

    private static TelexReceiver sent(String text, int... faults) {
        TelexReceiver x = new TelexReceiver();
        for (int i = 0; i + 1 < faults.length; i += 2) {
            x.setFault(faults[i], faults[i + 1]);
        }
        Check.send(x, text);
        return x;
    }

    // Promise 29: "Compares the characters that are printed with those that were sent (without "@" and "#")."
    private static void testComparesWithoutCalls() {
        Check.due("P29 of nothing", 0, new TelexReceiver()::wrongCharacters);
        Check.due("P29 of calls alone", 0, sent("@#@")::wrongCharacters);
        Check.due("P29 of calls among others", 0, sent("@k#.@ \n@")::wrongCharacters);
        Check.due("P29 of calls that are lost", 0, sent("k@", 1, 0)::wrongCharacters);
        Check.due("P29 of a call that is printed as a letter", 1, sent("k@", 1, 3)::wrongCharacters);
        TelexReceiver buffer = sent("k");
        buffer.append('l');
        Check.due("P29 what is in the buffer was not sent", 0, buffer::wrongCharacters);
    }

    // Promise 29: "Returns the number of indexes at which both have a character, but not the same one, plus
    // the difference of both lengths."
    private static void testWrongCharacters() {
        Check.due("P29 one differs", 1, sent("klk", 1, 1)::wrongCharacters);
        Check.due("P29 the first differs", 1, sent("klk", 0, 1)::wrongCharacters);
        Check.due("P29 the last differs", 1, sent("klk", 2, 3)::wrongCharacters);
        Check.due("P29 one less, at the end", 1, sent("klm", 2, 0)::wrongCharacters);
        Check.due("P29 one less, all behind it differ", 3, sent("klm", 0, 0)::wrongCharacters);
        Check.due("P29 all are lost", 3, sent("klm", 0, 0, 1, 0, 2, 0)::wrongCharacters);
        Check.due("P29 one more, at the end", 1, sent("k#", 1, 1, 2, 3)::wrongCharacters);
        Check.due("P29 one more, all behind it differ", 3, sent("@kl", 0, 3)::wrongCharacters);
        Check.due("P29 more than none", 2, sent("@@", 0, 3, 1, 3)::wrongCharacters);
        TelexReceiver most = new TelexReceiver();
        most.setFault(0, 0);
        Check.sendInParts(most, "kl".repeat(100));
        Check.due("P29 the most", 200, most::wrongCharacters);
    }

    // Promise 30: "Returns the number of segments that are not doubtful, as a double, divided by the number of
    // segments, as a double; 1.0 without segments."
    private static void testPlausibility() {
        Check.due("P30 of nothing", 1.0, new TelexReceiver()::plausibility);
        Check.due("P30 without segments", 1.0, Got.receiver("", 27, 29, 30, 0)::plausibility);
        Check.due("P30 one, doubtful", 0.0, Got.receiver("", 11)::plausibility);
        Check.due("P30 one, plausible", 1.0, Got.receiver("k", 11)::plausibility);
        Check.due("P30 one, a guess", 1.0, Got.receiver("", 1)::plausibility);
        Check.due("P30 one of three", 1.0 / 3.0, Got.receiver("k", 11, 27, 12, 27, 12)::plausibility);
        Check.due("P30 two of three", 2.0 / 3.0, Got.receiver("k", 11, 27, 1, 27, 12)::plausibility);
        TelexReceiver x = new TelexReceiver();
        Check.learn(x, "k");
        Check.sendInParts(x, "k " + "l ".repeat(99));
        Check.due("P30 one of 100", 1.0 / 100.0, x::plausibility);
    }

    private static String forecasts(TelexReceiver x, int code) {
        StringBuilder text = new StringBuilder();
        for (int number = 0; number <= x.received(); number++) {
            text.append(x.doubtfulWith(number, code));
        }
        return text.toString();
    }

    private static void forecast(String what, String want, TelexReceiver x) {
        Check.due("P31 " + what + ", 30", want, () -> forecasts(x, 30));
        Check.due("P31 " + what + ", 31", want, () -> forecasts(x, 31));
    }

    // Promise 31: "number: 0 to received(): the new code would come before the code with this number, or
    // behind all codes"
    private static void testDoubtfulWithAtEachPlace() {
        forecast("of nothing", "0", new TelexReceiver());
        forecast("of one sign", "11", Got.receiver("", 11));
        forecast("of one word", "00", Got.receiver("k", 11));
        forecast("of two words in one segment", "1212021", Got.receiver("kl klmn mn", 11, 12, 13, 14, 11, 12));
        forecast("of a word behind a code that is no sign", "0020", Got.receiver("kl", 27, 11, 12));
        forecast("of a word before a code that is no sign", "0200", Got.receiver("kl", 11, 12, 27));
        forecast("of a word between codes that are no signs", "00200", Got.receiver("kl", 0, 11, 12, 0));
        forecast("of codes that are no signs", "0000000", Got.receiver("", 0, 27, 28, 29, 30, 31));
        // A shift next to the space cuts nothing.
        forecast("of a word and a doubtful segment", "131121", Got.receiver("to", 20, 15, 27, 11, 12));
    }

    // Promise 31: "number: 0 to received()", "Throws IndexOutOfBoundsException if number is out of range"
    private static void testDoubtfulWithNumber() {
        TelexReceiver none = new TelexReceiver();
        Check.due("P31 number 0 of none", 0, () -> none.doubtfulWith(0, 30));
        Check.due("P31 number 1 of none", NO_INDEX, () -> none.doubtfulWith(1, 30));
        TelexReceiver x = new TelexReceiver();
        x.setFault(0, 0);
        Check.send(x, "klm");
        Check.due("P31 number 2 of 2", 1, () -> x.doubtfulWith(2, 31));
        int[] out = {-1, 3, Integer.MIN_VALUE, Integer.MAX_VALUE};
        for (int number : out) {
            Check.due("P31 number " + number + " of 2", NO_INDEX, () -> x.doubtfulWith(number, 31));
        }
        TelexReceiver most = new TelexReceiver();
        Check.sendInParts(most, "k".repeat(200));
        Check.due("P31 number 200 of 200", 1, () -> most.doubtfulWith(200, 30));
        Check.due("P31 number 199 of 200", 2, () -> most.doubtfulWith(199, 30));
        Check.due("P31 number 201 of 200", NO_INDEX, () -> most.doubtfulWith(201, 30));
    }

    // Promise 31: "code: 30 or 31", "Throws IllegalArgumentException if code is neither 30 nor 31"
    private static void testDoubtfulWithCode() {
        TelexReceiver x = Got.receiver("", 11);
        Check.due("P31 code 30", 1, () -> x.doubtfulWith(0, 30));
        Check.due("P31 code 31", 1, () -> x.doubtfulWith(0, 31));
        int[] out = {-1, 0, 1, 27, 28, 29, 32, 62, -30, -31, Integer.MIN_VALUE, Integer.MAX_VALUE};
        for (int code : out) {
            Check.due("P31 code " + code, BAD_ARGUMENT, () -> x.doubtfulWith(1, code));
        }
    }

    // Promise 32: "NONE if none of them has fewer doubtful segments than there are now."
    private static void testNoRepair() {
        Check.due("P32 of nothing", -1, new TelexReceiver()::bestRepair);
        Check.due("P32 without segments", -1, Got.receiver("", 27, 29)::bestRepair);
        Check.due("P32 nothing is doubtful", -1, Got.receiver("kl k l", 11, 12)::bestRepair);
        Check.due("P32 nothing but a guess to letters", -1, Got.receiver("kl k l", 30, 11, 12)::bestRepair);
        Check.due("P32 nothing but a guess to figures", -1, Got.receiver("", 1, 2)::bestRepair);
        Check.due("P32 one sign cannot be cut", -1, Got.receiver("", 11)::bestRepair);
        Check.due("P32 a cut makes it no better and no worse", -1, Got.receiver("k", 11, 12)::bestRepair);
        Check.due("P32 a cut makes it worse", -1, Got.receiver("", 11, 12)::bestRepair);
        Check.due("P32 two shifts would be needed", -1, Got.receiver("k", 11, 11, 11)::bestRepair);
    }

    // Promise 32: "Returns 2 times the number, plus 0 for the code 30 or 1 for the code 31 (both as for
    // doubtfulWith()); among several of these the least result"
    private static void testTheLeastRepair() {
        Check.due("P32 the least number, the code 30", 2, Got.receiver("k l", 11, 12)::bestRepair);
        Check.due("P32 also where letters are to follow", 6, Got.receiver("we", 30, 1, 2, 23, 5)::bestRepair);
        Check.due("P32 the first of two", 2, Got.receiver("k l", 11, 12, 27, 11, 12)::bestRepair);
        // "klk" as "k" and "lk" or as "kl" and "k".
        Check.due("P32 the first of two places in a segment", 2, Got.receiver("k lk kl", 11, 12, 11)::bestRepair);
        TelexReceiver most = new TelexReceiver();
        Check.learn(most, "k");
        Check.sendInParts(most, " ".repeat(198) + "kk");
        Check.due("P32 the greatest number", 398, most::bestRepair);
    }

    // Promise 32: "Finds the single additional shift by which the fewest segments would be doubtful."
    private static void testTheFewest() {
        // Behind the first letter one part is a word, behind the second one both are.
        Check.due("P32 two words, not one", 4, Got.receiver("k kl", 11, 12, 11)::bestRepair);
        Check.due("P32 in the middle", 4, Got.receiver("kl", 11, 12, 11, 12)::bestRepair);
        Check.due("P32 behind a word and what no cut repairs", 12,
                Got.receiver("kl k l", 11, 12, 27, 13, 27, 12, 11)::bestRepair);
    }

    public static void main(String[] args) {
        testPrintedLength();
        testPrinted();
        testSegments();
        testSegmentLength();
        testEachKind();
        testKindOfNoSegment();
        testGuessesAndDoubtful();
        testBellsAndQuestions();
        testReceiverShift();
        testComparesWithoutCalls();
        testWrongCharacters();
        testPlausibility();
        testDoubtfulWithAtEachPlace();
        testDoubtfulWithNumber();
        testDoubtfulWithCode();
        testNoRepair();
        testTheLeastRepair();
        testTheFewest();
        Check.finish();
    }
}
