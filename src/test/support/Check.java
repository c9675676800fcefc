/** Compares answers with those that are due, and ends a test with exit code 1 if one was wrong. */
final class Check {
    /** A call whose answer, or whose exception, is looked at. */
    interface Call {
        Object answer();
    }

    private static int wrong = 0;

    private Check() {
    }

    /** The due answer may be the class of an exception, if the call is to throw that. */
    static void due(String what, Object want, Call call) {
        Object got;
        try {
            got = call.answer();
        } catch (RuntimeException e) {
            got = e.getClass();
        }
        if (!want.equals(got)) {
            wrong++;
            System.out.println(what + " answered " + got + ", due is " + want);
        }
    }

    static void appendAll(TelexReceiver telex, String text) {
        for (int i = 0; i < text.length(); i++) {
            telex.append(text.charAt(i));
        }
    }

    static int send(TelexReceiver telex, String text) {
        appendAll(telex, text);
        return telex.send();
    }

    /** Sends a text that need not fit the buffer. */
    static void sendInParts(TelexReceiver telex, String text) {
        for (int start = 0; start < text.length(); start += 60) {
            send(telex, text.substring(start, Math.min(start + 60, text.length())));
        }
    }

    static int learn(TelexReceiver telex, String word) {
        appendAll(telex, word);
        return telex.learn();
    }

    /** Fills a dictionary that is empty with the words "a" to "t". */
    static void learnTwenty(TelexReceiver telex) {
        for (char letter = 'a'; letter <= 't'; letter++) {
            learn(telex, "" + letter);
        }
    }

    static String printed(TelexReceiver telex) {
        StringBuilder text = new StringBuilder();
        for (int i = 0; i < telex.printedLength(); i++) {
            text.append((char) telex.printed(i));
        }
        return text.toString();
    }

    static String sentCodes(TelexReceiver telex) {
        StringBuilder codes = new StringBuilder();
        for (int i = 0; i < telex.sent(); i++) {
            codes.append(telex.sentCode(i)).append(' ');
        }
        return codes.toString().trim();
    }

    static String receivedCodes(TelexReceiver telex) {
        StringBuilder codes = new StringBuilder();
        for (int i = 0; i < telex.received(); i++) {
            codes.append(telex.receivedCode(i)).append(' ');
        }
        return codes.toString().trim();
    }

    static String kinds(TelexReceiver telex) {
        StringBuilder kinds = new StringBuilder();
        for (int i = 0; i < telex.segments(); i++) {
            kinds.append(telex.segmentKind(i)).append(' ');
        }
        return kinds.toString().trim();
    }

    static String lengths(TelexReceiver telex) {
        StringBuilder lengths = new StringBuilder();
        for (int i = 0; i < telex.segments(); i++) {
            lengths.append(telex.segmentLength(i)).append(' ');
        }
        return lengths.toString().trim();
    }

    static void finish() {
        if (wrong != 0) {
            System.out.println(wrong + " answers are not as due");
            System.exit(1);
        }
    }
}
