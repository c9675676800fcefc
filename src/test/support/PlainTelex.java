import java.util.ArrayList;
import java.util.List;

/**
 * The document told a second time, as plainly as can be: lists and texts, everything decoded for
 * each question, each forecast by really putting the code in. Random runs are compared with it.
 */
final class PlainTelex {
    private static final String FIGURES = "1234567890.,:;?!'()/-+=&%\"";

    private static final class State {
        final List<Integer> sent = new ArrayList<>();
        final List<Integer> received = new ArrayList<>();
        final List<String> words = new ArrayList<>();
        final int[] faults = new int[200];
        String text = "";
        int shift = 0;
        boolean unshifts = false;

        State() {
            java.util.Arrays.fill(faults, -1);
        }

        State(State other) {
            sent.addAll(other.sent);
            received.addAll(other.received);
            words.addAll(other.words);
            System.arraycopy(other.faults, 0, faults, 0, 200);
            text = other.text;
            shift = other.shift;
            unshifts = other.unshifts;
        }
    }

    private final class Print {
        final StringBuilder text = new StringBuilder();
        final List<Integer> lengths = new ArrayList<>();
        final List<Integer> kinds = new ArrayList<>();
        final List<String> readings = new ArrayList<>();
        int shift = 0;
        int bells = 0;
        int questions = 0;

        Print(List<Integer> codes) {
            int at = 0;
            while (at < codes.size()) {
                int end = at;
                while (end < codes.size() && codes.get(end) >= 1 && codes.get(end) <= 26) {
                    end++;
                }
                if (end > at) {
                    segment(codes.subList(at, end));
                    at = end;
                } else {
                    single(codes.get(at));
                    at++;
                }
            }
        }

        private void segment(List<Integer> codes) {
            String letters = "";
            String figures = "";
            for (int code : codes) {
                letters += (char) (96 + code);
                figures += FIGURES.charAt(code - 1);
            }
            boolean[] plausible = {state.words.contains(letters), figures.matches("[0-9]+")};
            int kind;
            if (plausible[shift]) {
                kind = shift;
            } else if (plausible[1 - shift]) {
                shift = 1 - shift;
                kind = shift + 2;
            } else {
                kind = shift + 4;
            }
            String reading = shift == 0 ? letters : figures;
            kinds.add(kind);
            lengths.add(codes.size());
            readings.add(reading);
            text.append(reading);
        }

        private void single(int code) {
            if (code == 27) {
                text.append(' ');
                shift = state.unshifts ? 0 : shift;
            } else if (code == 28) {
                text.append('\n');
            } else if (code == 29 && shift == 1) {
                bells++;
            } else if (code == 29) {
                questions++;
            } else if (code >= 30) {
                shift = 31 - code;
            }
        }

        int count(int flag) {
            int count = 0;
            for (int kind : kinds) {
                count += (kind & flag) != 0 ? 1 : 0;
            }
            return count;
        }
    }

    private State state = new State();
    private final List<State> saved = new ArrayList<>();
    private String buffer = "";

    private Print print() {
        return new Print(state.received);
    }

    private void save() {
        saved.add(new State(state));
        if (saved.size() > 6) {
            saved.remove(0);
        }
    }

    private static void within(int index, int size) {
        if (index < 0 || index >= size) {
            throw new IndexOutOfBoundsException();
        }
    }

    private static boolean isLetter(int character) {
        return character >= 97 && character <= 122;
    }

    int append(int code) {
        if (!isLetter(code) && (FIGURES + " \n@#").indexOf(code) < 0) {
            throw new IllegalArgumentException();
        }
        if (buffer.length() == 60) {
            throw new IllegalStateException();
        }
        buffer += (char) code;
        return buffer.length();
    }

    int clearBuffer() {
        int length = buffer.length();
        buffer = "";
        return length;
    }

    private int shiftAfterSending(List<Integer> codes) {
        int shift = state.shift;
        for (int i = 0; i < buffer.length(); i++) {
            char character = buffer.charAt(i);
            boolean letters = isLetter(character) || character == '@';
            if (character == ' ' || character == '\n') {
                codes.add(character == ' ' ? 27 : 28);
                shift = character == ' ' && state.unshifts ? 0 : shift;
                continue;
            }
            if (letters && shift == 1) {
                codes.add(31);
                shift = 0;
            } else if (!letters && shift == 0) {
                codes.add(30);
                shift = 1;
            }
            if (character == '@' || character == '#') {
                codes.add(29);
            } else {
                codes.add(letters ? character - 96 : FIGURES.indexOf(character) + 1);
            }
        }
        return shift;
    }

    int codesToSend() {
        List<Integer> codes = new ArrayList<>();
        shiftAfterSending(codes);
        return codes.size();
    }

    int send() {
        List<Integer> codes = new ArrayList<>();
        int shift = shiftAfterSending(codes);
        if (buffer.isEmpty() || state.sent.size() + codes.size() > 200) {
            throw new IllegalStateException();
        }
        save();
        int before = state.received.size();
        for (int code : codes) {
            int fault = state.faults[state.sent.size()];
            state.sent.add(code);
            if (fault == -1) {
                state.received.add(code);
            } else if (fault > 0) {
                state.received.add(code ^ (int) Math.pow(2, fault - 1));
            }
        }
        state.shift = shift;
        state.text += buffer.replace("@", "").replace("#", "");
        buffer = "";
        return state.received.size() - before;
    }

    int setFault(int index, int fault) {
        within(index, 200);
        if (fault < -1 || fault > 5) {
            throw new IllegalArgumentException();
        }
        save();
        int previous = state.faults[index];
        state.faults[index] = fault;
        return previous;
    }

    int sent() {
        return state.sent.size();
    }

    int received() {
        return state.received.size();
    }

    int sentCode(int index) {
        within(index, sent());
        return state.sent.get(index);
    }

    int receivedCode(int number) {
        within(number, received());
        return state.received.get(number);
    }

    int senderShift() {
        return state.shift;
    }

    int faults() {
        int count = 0;
        for (int fault : state.faults) {
            count += fault == -1 ? 0 : 1;
        }
        return count;
    }

    boolean unshiftOnSpace(boolean isOn) {
        save();
        boolean previous = state.unshifts;
        state.unshifts = isOn;
        return previous;
    }

    int learn() {
        if (!buffer.matches("[a-z]{1,6}")) {
            throw new IllegalArgumentException();
        }
        if (words() == 20 && !state.words.contains(buffer)) {
            throw new IllegalStateException();
        }
        save();
        if (!state.words.contains(buffer)) {
            state.words.add(buffer);
        }
        buffer = "";
        return words();
    }

    int forget(int word) {
        within(word, words());
        save();
        return state.words.remove(word).length();
    }

    int words() {
        return state.words.size();
    }

    int wordLetter(int word, int index) {
        within(word, words());
        within(index, 6);
        String text = state.words.get(word);
        return index < text.length() ? text.charAt(index) : -1;
    }

    int uses(int word) {
        within(word, words());
        int count = 0;
        for (String reading : print().readings) {
            count += reading.equals(state.words.get(word)) ? 1 : 0;
        }
        return count;
    }

    int printedLength() {
        return print().text.length();
    }

    int printed(int index) {
        within(index, printedLength());
        return print().text.charAt(index);
    }

    int segments() {
        return print().kinds.size();
    }

    int segmentLength(int segment) {
        within(segment, segments());
        return print().lengths.get(segment);
    }

    int segmentKind(int segment) {
        within(segment, segments());
        return print().kinds.get(segment);
    }

    int guesses() {
        return print().count(2);
    }

    int doubtful() {
        return print().count(4);
    }

    int bells() {
        return print().bells;
    }

    int questions() {
        return print().questions;
    }

    int receiverShift() {
        return print().shift;
    }

    int wrongCharacters() {
        String arrived = print().text.toString();
        int wrong = Math.abs(arrived.length() - state.text.length());
        for (int i = 0; i < arrived.length() && i < state.text.length(); i++) {
            wrong += arrived.charAt(i) == state.text.charAt(i) ? 0 : 1;
        }
        return wrong;
    }

    double plausibility() {
        return segments() == 0 ? 1.0 : (double) (segments() - doubtful()) / (double) segments();
    }

    int doubtfulWith(int number, int code) {
        within(number, received() + 1);
        if (code != 30 && code != 31) {
            throw new IllegalArgumentException();
        }
        List<Integer> codes = new ArrayList<>(state.received);
        codes.add(number, code);
        return new Print(codes).count(4);
    }

    int bestRepair() {
        int best = -1;
        int fewest = doubtful();
        for (int result = 0; result < 2 * received() + 2; result++) {
            int with = doubtfulWith(result / 2, 30 + result % 2);
            if (with < fewest) {
                fewest = with;
                best = result;
            }
        }
        return best;
    }

    int undo() {
        if (saved.isEmpty()) {
            throw new IllegalStateException();
        }
        state = saved.remove(saved.size() - 1);
        return saved.size();
    }

    int savedStates() {
        return saved.size();
    }

    long digest() {
        Print print = print();
        List<Integer> values = new ArrayList<>(List.of(sent(), received(), senderShift(), faults(), words(),
                printedLength(), segments(), guesses(), doubtful(), bells()));
        values.addAll(List.of(questions(), receiverShift(), wrongCharacters(), bestRepair()));
        values.addAll(state.received);
        for (int i = 0; i < print.text.length(); i++) {
            values.add((int) print.text.charAt(i));
        }
        for (int i = 0; i < print.kinds.size(); i++) {
            values.add(print.lengths.get(i));
            values.add(print.kinds.get(i));
        }
        for (int i = 0; i < words(); i++) {
            values.add(state.words.get(i).length());
            values.add(uses(i));
        }
        long hash = 8139;
        for (int value : values) {
            hash = 31 * hash + value;
        }
        return hash;
    }
}
