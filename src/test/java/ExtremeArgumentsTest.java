/** Arguments far out of range, on a new object and on a used one: the exception that is named first. */
public final class ExtremeArgumentsTest {
    private static final Object NO_INDEX = IndexOutOfBoundsException.class;
    private static final Object BAD_ARGUMENT = IllegalArgumentException.class;
    private static final int[] EXTREMES = {Integer.MIN_VALUE, Integer.MIN_VALUE + 1, -65536, -201, -2, -1,
        201, 255, 256, 512, 65536, 65536 + 49, Integer.MAX_VALUE - 1, Integer.MAX_VALUE};

    private static void test(TelexReceiver x) {
        long before = x.digest();
        int saved = x.savedStates();
        for (int value : EXTREMES) {
            Check.due("append(" + value + ")", BAD_ARGUMENT, () -> x.append(value));
            Check.due("setFault(" + value + ", 9)", NO_INDEX, () -> x.setFault(value, 9));
            if (value != TelexReceiver.NONE) {
                Check.due("setFault(0, " + value + ")", BAD_ARGUMENT, () -> x.setFault(0, value));
            }
            Check.due("sentCode(" + value + ")", NO_INDEX, () -> x.sentCode(value));
            Check.due("receivedCode(" + value + ")", NO_INDEX, () -> x.receivedCode(value));
            Check.due("forget(" + value + ")", NO_INDEX, () -> x.forget(value));
            Check.due("wordLetter(" + value + ", 0)", NO_INDEX, () -> x.wordLetter(value, 0));
            Check.due("wordLetter(0, " + value + ")", NO_INDEX, () -> x.wordLetter(0, value));
            Check.due("uses(" + value + ")", NO_INDEX, () -> x.uses(value));
            Check.due("printed(" + value + ")", NO_INDEX, () -> x.printed(value));
            Check.due("segmentLength(" + value + ")", NO_INDEX, () -> x.segmentLength(value));
            Check.due("segmentKind(" + value + ")", NO_INDEX, () -> x.segmentKind(value));
            Check.due("doubtfulWith(" + value + ", 0)", NO_INDEX, () -> x.doubtfulWith(value, 0));
            Check.due("doubtfulWith(0, " + value + ")", BAD_ARGUMENT, () -> x.doubtfulWith(0, value));
        }
        Check.due("nothing changed", before, x::digest);
        Check.due("nothing is saved", saved, x::savedStates);
        Check.due("nothing is in the buffer", 0, x::clearBuffer);
    }

    public static void main(String[] args) {
        test(new TelexReceiver());
        TelexReceiver used = new TelexReceiver();
        Check.learn(used, "we");
        Check.send(used, "we 12 . @#\n");
        used.setFault(100, 4);
        test(used);
        Check.finish();
    }
}
