/** Brings exactly the codes that a test wants to a receiver, also those that no sender would send. */
final class Got {
    private static final int MOST_AT_ONCE = 60;

    private Got() {
    }

    /** A receiver that knows some words (with spaces between them) and has got these codes. */
    static TelexReceiver receiver(String words, int... codes) {
        TelexReceiver x = new TelexReceiver();
        for (String word : words.split(" ")) {
            if (!word.isEmpty()) {
                Check.learn(x, word);
            }
        }
        codes(x, codes);
        return x;
    }

    // Each code is sent as a letter that differs from it in one bit at most, so the sender never shifts.
    static void codes(TelexReceiver x, int... codes) {
        int before = x.received();
        int waiting = 0;
        for (int i = 0; i < codes.length; i++) {
            int letter = nearestLetter(codes[i]);
            if (letter != codes[i]) {
                x.setFault(x.sent() + waiting, Integer.numberOfTrailingZeros(codes[i] ^ letter) + 1);
            }
            x.append('a' + letter - 1);
            waiting++;
            if (waiting == MOST_AT_ONCE || i == codes.length - 1) {
                x.send();
                waiting = 0;
            }
        }
        Check.due("the number of codes that were got", before + codes.length, x::received);
        Check.due("the last code that was got", codes[codes.length - 1], () -> x.receivedCode(x.received() - 1));
    }

    private static int nearestLetter(int code) {
        if (code >= 1 && code <= 26) {
            return code;
        }
        for (int bit = 0; bit < 5; bit++) {
            int letter = code ^ (1 << bit);
            if (letter >= 1 && letter <= 26) {
                return letter;
            }
        }
        throw new IllegalArgumentException("no letter is near " + code);
    }
}
