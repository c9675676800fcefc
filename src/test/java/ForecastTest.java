/** Promises 31 and 32: forecasts. */
public final class ForecastTest {
    private static final Object NO_INDEX = IndexOutOfBoundsException.class;
    private static final Object NO_SHIFT = IllegalArgumentException.class;

    private static TelexReceiver sent(String words, String text, int... lost) {
        TelexReceiver x = new TelexReceiver();
        for (String word : words.split(" ")) {
            if (!word.isEmpty()) {
                Check.learn(x, word);
            }
        }
        for (int index : lost) {
            x.setFault(index, 0);
        }
        Check.send(x, text);
        return x;
    }

    private static void with(TelexReceiver x, String toFigures, String toLetters) {
        StringBuilder figures = new StringBuilder();
        StringBuilder letters = new StringBuilder();
        for (int number = 0; number <= x.received(); number++) {
            figures.append(x.doubtfulWith(number, 30)).append(' ');
            letters.append(x.doubtfulWith(number, 31)).append(' ');
        }
        Check.due("P31 with 30", toFigures, () -> figures.toString().trim());
        Check.due("P31 with 31", toLetters, () -> letters.toString().trim());
    }

    private static void testDoubtfulWith() {
        with(new TelexReceiver(), "0", "0");
        with(sent("", "k"), "1 1", "1 1");
        with(sent("", "kl"), "1 2 1", "1 2 1");
        with(sent("", "ak"), "1 1 1", "1 1 1");
        with(sent("to", "to"), "0 2 0", "0 2 0");
        with(sent("to", "tok"), "1 2 1 1", "1 2 1 1");
        with(sent("to", "to k to"), "1 3 1 1 1 1 3 1", "1 3 1 1 1 1 3 1");
        with(sent("to", "to\n.to"), "1 3 1 1 1 1 1 3 1", "1 3 1 1 1 1 1 3 1");
        with(sent("to", "toto"), "1 2 0 2 1", "1 2 0 2 1");
        with(sent("to o", "toto"), "1 2 0 1 1", "1 2 0 1 1");
        with(sent("t o", "to"), "1 0 1", "1 0 1");
        with(sent("", "12."), "1 1 1 1 1", "1 1 1 1 1");
        with(sent("", "12"), "0 0 0 0", "0 0 0 0");
    }

    private static void testWrongArguments() {
        TelexReceiver x = sent("", "kl");
        long before = x.digest();
        int saved = x.savedStates();
        Check.due("P31 number -1", NO_INDEX, () -> x.doubtfulWith(-1, 30));
        Check.due("P31 number 3", NO_INDEX, () -> x.doubtfulWith(3, 31));
        Check.due("P31 number far off", NO_INDEX, () -> x.doubtfulWith(Integer.MAX_VALUE, 30));
        Check.due("P31 number far below", NO_INDEX, () -> x.doubtfulWith(Integer.MIN_VALUE, 30));
        Check.due("P31 both wrong", NO_INDEX, () -> x.doubtfulWith(3, 29));
        int[] noShifts = {29, 32, 0, 1, -1, -30, 27, 62, Integer.MAX_VALUE, Integer.MIN_VALUE};
        for (int code : noShifts) {
            Check.due("P31 code " + code, NO_SHIFT, () -> x.doubtfulWith(2, code));
        }
        Check.due("P31 behind all codes", 1, () -> x.doubtfulWith(2, 31));
        Check.due("P31 changes nothing", before, x::digest);
        Check.due("P31 saves nothing", saved, x::savedStates);
    }

    private static void repair(String what, int want, TelexReceiver x) {
        long before = x.digest();
        Check.due("P32 bestRepair() " + what, want, x::bestRepair);
        Check.due("P32 changes nothing", before, x::digest);
        int count = x.received();
        // Where all places can be tried within the calls that the document promises to answer.
        if (want != -1 && count <= 100) {
            int least = x.doubtfulWith(want / 2, 30 + want % 2);
            for (int result = 0; result < 2 * count + 2; result++) {
                int tried = result;
                int doubtful = x.doubtfulWith(tried / 2, 30 + tried % 2);
                Check.due("P32 " + what + ": " + tried + " is no better", true,
                        () -> doubtful > least || doubtful == least && tried >= want);
            }
        }
    }

    private static void testBestRepair() {
        repair("of nothing", -1, new TelexReceiver());
        repair("without doubt", -1, sent("we", "we 12"));
        repair("that does not help", -1, sent("", "k"));
        // The lost shift joins a word and a number: 23 5 1 2.
        repair("of a word and a number in letters", 4, sent("we", "we12", 2));
        // 30 1 2 23 5: the letters shift was lost.
        repair("of a number and a word", 6, sent("we", "12we", 3));
        // 23 5 23 5, without the space: either shift between them does, so the least result.
        repair("of two words", 4, sent("we", "we we", 2));
        repair("of two words behind each other and a doubt", 4, sent("we", "we we k", 2));
        repair("of the first among two", 4, sent("we", "we we we we", 2, 8));
        repair("of a word in a full line", 396, full());
    }

    private static TelexReceiver full() {
        TelexReceiver x = new TelexReceiver();
        Check.learn(x, "we");
        for (int i = 0; i < 49; i++) {
            Check.send(x, "we  ");
        }
        Check.send(x, "wewe");
        Check.due("200 codes", 200, x::received);
        return x;
    }

    private static void testForecastHolds() {
        TelexReceiver x = sent("we", "we12", 2);
        int predicted = x.doubtfulWith(2, 30);
        TelexReceiver y = sent("we", "we12");
        Check.due("P31 is what comes of it", y.doubtful(), () -> predicted);
        Check.due("P31 before it was worse", 1, x::doubtful);
    }

    private static void testUnshifting() {
        TelexReceiver x = sent("", ". .");
        with(x, "2 2 2 2 2", "2 2 2 2 2");
        x.unshiftOnSpace(true);
        with(x, "2 2 2 2 2", "2 2 2 2 2");
    }

    public static void main(String[] args) {
        testDoubtfulWith();
        testWrongArguments();
        testBestRepair();
        testForecastHolds();
        testUnshifting();
        Check.finish();
    }
}
