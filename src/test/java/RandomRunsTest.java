/** Runs of calls, made by a counter's own numbers, compared with the plain model of the document. */
public final class RandomRunsTest {
    private static final int RUNS = 200;
    private static final int STEPS = 200;
    // The document leaves free what an object answers after 512 calls.
    private static final int MOST_CALLS = 490;
    private static final String[] WORDS = {"we", "you", "tip", "pew", "a", "e", "i", "tower", "quoted", "p", "to", "up"};
    private static final String MIXED = "abeiopqtuwyz1357902460.,:;?!'()/-+=&%\" \n@# \n@#we?it";

    private static long seed = 1;
    private static int calls = 0;

    private static int below(int bound) {
        seed = seed * 6364136223846793005L + 1442695040888963407L;
        return (int) ((seed >>> 33) % bound);
    }

    private static void due(int run, String what, Check.Call call, Check.Call model) {
        calls++;
        Object want;
        try {
            want = model.answer();
        } catch (RuntimeException e) {
            want = e.getClass();
        }
        Check.due("run " + run + ": " + what, want, call);
    }

    private static String someText() {
        switch (below(8)) {
            case 0:
                return "";
            case 1:
                return WORDS[below(WORDS.length)];
            case 2:
                return WORDS[below(WORDS.length)] + " " + WORDS[below(WORDS.length)] + " " + below(1000);
            case 3:
                return "" + below(100000) + "\n" + WORDS[below(WORDS.length)];
            case 4:
                return "" + (char) (97 + below(26));
            default:
                StringBuilder text = new StringBuilder();
                int length = below(12);
                for (int i = 0; i < length; i++) {
                    text.append(MIXED.charAt(below(MIXED.length())));
                }
                return text.toString();
        }
    }

    private static void fillBuffer(int run, TelexReceiver x, PlainTelex m) {
        String text = someText();
        for (int i = 0; i < text.length(); i++) {
            int character = text.charAt(i);
            due(run, "append(" + character + ")", () -> x.append(character), () -> m.append(character));
        }
    }

    private static void change(int run, TelexReceiver x, PlainTelex m) {
        int a = below(40) - 2;
        int b = below(9) - 2;
        boolean isOn = below(2) == 0;
        switch (below(14)) {
            case 0:
            case 1:
            case 2:
                fillBuffer(run, x, m);
                due(run, "send()", x::send, m::send);
                break;
            case 3:
            case 4:
            case 5:
                fillBuffer(run, x, m);
                due(run, "learn()", x::learn, m::learn);
                break;
            case 6:
                due(run, "clearBuffer()", x::clearBuffer, m::clearBuffer);
                break;
            case 7:
            case 8:
            case 9:
                int index = m.sent() + a;
                due(run, "setFault(" + index + "," + b + ")", () -> x.setFault(index, b), () -> m.setFault(index, b));
                break;
            case 10:
                due(run, "unshiftOnSpace(" + isOn + ")", () -> x.unshiftOnSpace(isOn), () -> m.unshiftOnSpace(isOn));
                break;
            case 11:
                int word = below(12) - 1;
                due(run, "forget(" + word + ")", () -> x.forget(word), () -> m.forget(word));
                break;
            case 12:
                due(run, "undo()", x::undo, m::undo);
                break;
            default:
                int character = below(140) - 5;
                due(run, "append(" + character + ")", () -> x.append(character), () -> m.append(character));
        }
    }

    private static void ask(int run, TelexReceiver x, PlainTelex m) {
        int a = below(m.received() + 3) - 1;
        int b = below(9) - 1;
        int word = below(m.words() + 2) - 1;
        int code = 29 + below(4);
        switch (below(12)) {
            case 0:
                due(run, "sentCode(" + a + ")", () -> x.sentCode(a), () -> m.sentCode(a));
                break;
            case 1:
                due(run, "receivedCode(" + a + ")", () -> x.receivedCode(a), () -> m.receivedCode(a));
                break;
            case 2:
                due(run, "printed(" + a + ")", () -> x.printed(a), () -> m.printed(a));
                break;
            case 3:
                due(run, "segmentLength(" + b + ")", () -> x.segmentLength(b), () -> m.segmentLength(b));
                break;
            case 4:
                due(run, "segmentKind(" + b + ")", () -> x.segmentKind(b), () -> m.segmentKind(b));
                break;
            case 5:
                due(run, "wordLetter(" + word + "," + b + ")", () -> x.wordLetter(word, b), () -> m.wordLetter(word, b));
                break;
            case 6:
                due(run, "uses(" + word + ")", () -> x.uses(word), () -> m.uses(word));
                break;
            case 7:
                due(run, "codesToSend()", x::codesToSend, m::codesToSend);
                break;
            case 8:
                due(run, "plausibility()", x::plausibility, m::plausibility);
                break;
            case 9:
                due(run, "savedStates()", x::savedStates, m::savedStates);
                break;
            default:
                due(run, "doubtfulWith(" + a + "," + code + ")", () -> x.doubtfulWith(a, code), () -> m.doubtfulWith(a, code));
        }
    }

    public static void main(String[] args) {
        for (int run = 0; run < RUNS; run++) {
            TelexReceiver x = new TelexReceiver();
            PlainTelex m = new PlainTelex();
            calls = 0;
            for (int step = 0; step < STEPS && calls < MOST_CALLS; step++) {
                change(run, x, m);
                ask(run, x, m);
                if (step % 5 == 0) {
                    due(run, "digest()", x::digest, m::digest);
                }
            }
            due(run, "bestRepair()", x::bestRepair, m::bestRepair);
            due(run, "digest()", x::digest, m::digest);
        }
        Check.finish();
    }
}
