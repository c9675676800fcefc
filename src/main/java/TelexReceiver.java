/**
 * A telex line: a sender that shifts as seldom as possible, a wire with faults, and a receiver that
 * prints what comes through and guesses the shift of words that it knows.
 */
public final class TelexReceiver {
    /** There is no such number. */
    public static final int NONE = -1;

    private static final int LETTERS = 0;
    private static final int FIGURES = 1;
    private static final int GUESSED = 2;
    private static final int DOUBTFUL = 4;

    private static final int LAST_DIGIT_CODE = 10;
    private static final int LAST_SIGN_CODE = 26;
    private static final int SPACE_CODE = 27;
    private static final int LINE_BREAK_CODE = 28;
    private static final int CALL_CODE = 29;
    private static final int TO_FIGURES = 30;
    private static final int TO_LETTERS = 31;

    private static final int QUESTION = '@';
    private static final int BELL = '#';
    private static final String FIGURE_CHARACTERS = "1234567890.,:;?!'()/-+=&%\"";

    private static final int LOST = 0;
    private static final int LAST_FAULT = 5;

    private static final int MOST_CHARACTERS = 60;
    private static final int MOST_CODES = 200;
    private static final int MOST_WORDS = 20;
    private static final int MOST_LETTERS = 6;
    private static final int MOST_SAVED = 6;

    private static final int NO_WORD = 0;
    private static final int BITS_OF_CODE = 5;
    private static final int CODE_MASK = 31;

    private static final long FIRST_HASH = 8139L;

    private final Row buffer = new Row(MOST_CHARACTERS);
    private final Line line = new Line();
    private final Dictionary dictionary = new Dictionary();
    private final Printer printer = new Printer();
    private final History history = new History();

    public TelexReceiver() {
    }

    // ---- buffer

    public int append(int code) throws IllegalArgumentException, IllegalStateException {
        if (Codes.codeOf(code) == NONE) {
            throw new IllegalArgumentException("not a character of the telex");
        }
        if (buffer.size() >= MOST_CHARACTERS) {
            throw new IllegalStateException("the buffer is full");
        }
        buffer.add(code);
        return buffer.size();
    }

    public int clearBuffer() {
        int length = buffer.size();
        buffer.clear();
        return length;
    }

    public int codesToSend() {
        return line.encode(buffer).size();
    }

    // ---- sender and wire

    public int send() throws IllegalStateException {
        if (buffer.size() == 0) {
            throw new IllegalStateException("the buffer is empty");
        }
        if (sent() + codesToSend() > MOST_CODES) {
            throw new IllegalStateException("more codes than can be sent in all");
        }
        history.save(line, dictionary);
        int before = received();
        line.transmit(buffer);
        buffer.clear();
        printer.decode(line, dictionary);
        return received() - before;
    }

    public int setFault(int index, int fault) throws IndexOutOfBoundsException, IllegalArgumentException {
        if (!line.faultRow.has(index)) {
            throw new IndexOutOfBoundsException("no such index of a code");
        }
        if (fault < NONE || fault > LAST_FAULT) {
            throw new IllegalArgumentException("no such fault");
        }
        history.save(line, dictionary);
        int previous = line.faultRow.at(index);
        line.faultRow.set(index, fault);
        return previous;
    }

    public int sent() {
        return line.sentRow.size();
    }

    public int received() {
        return line.receivedRow.size();
    }

    public int sentCode(int index) throws IndexOutOfBoundsException {
        if (!line.sentRow.has(index)) {
            throw new IndexOutOfBoundsException("no such code was sent");
        }
        return line.sentRow.at(index);
    }

    public int receivedCode(int number) throws IndexOutOfBoundsException {
        if (!line.receivedRow.has(number)) {
            throw new IndexOutOfBoundsException("no such code was received");
        }
        return line.receivedRow.at(number);
    }

    public int senderShift() {
        return line.shift;
    }

    public int faults() {
        return MOST_CODES - line.faultRow.count(NONE);
    }

    // ---- receiver

    public boolean unshiftOnSpace(boolean isOn) {
        history.save(line, dictionary);
        boolean previous = line.unshifts;
        line.unshifts = isOn;
        printer.decode(line, dictionary);
        return previous;
    }

    public int learn() throws IllegalArgumentException, IllegalStateException {
        int word = Dictionary.wordOfCharacters(buffer);
        if (word == NO_WORD) {
            throw new IllegalArgumentException("the buffer is not a word");
        }
        boolean isNew = dictionary.wordRow.find(word) == NONE;
        if (isNew && words() >= MOST_WORDS) {
            throw new IllegalStateException("the dictionary is full");
        }
        history.save(line, dictionary);
        if (isNew) {
            dictionary.wordRow.add(word);
        }
        buffer.clear();
        printer.decode(line, dictionary);
        return words();
    }

    public int forget(int word) throws IndexOutOfBoundsException {
        if (!dictionary.wordRow.has(word)) {
            throw new IndexOutOfBoundsException("no such word to forget");
        }
        history.save(line, dictionary);
        int length = dictionary.lengthOf(word);
        dictionary.wordRow.remove(word);
        printer.decode(line, dictionary);
        return length;
    }

    public int words() {
        return dictionary.wordRow.size();
    }

    public int wordLetter(int word, int index) throws IndexOutOfBoundsException {
        if (!dictionary.wordRow.has(word)) {
            throw new IndexOutOfBoundsException("no such word");
        }
        if (index < 0 || index >= MOST_LETTERS) {
            throw new IndexOutOfBoundsException("no word is so long");
        }
        int code = dictionary.codeOfLetter(word, index);
        return code == 0 ? NONE : Codes.characterOf(code, LETTERS);
    }

    public int uses(int word) throws IndexOutOfBoundsException {
        if (!dictionary.wordRow.has(word)) {
            throw new IndexOutOfBoundsException("no such word");
        }
        return printer.wordRow.count(word);
    }

    // ---- what is printed

    public int printedLength() {
        return printer.printedRow.size();
    }

    public int printed(int index) throws IndexOutOfBoundsException {
        if (!printer.printedRow.has(index)) {
            throw new IndexOutOfBoundsException("no such character is printed");
        }
        return printer.printedRow.at(index);
    }

    public int segments() {
        return printer.kindRow.size();
    }

    public int segmentLength(int segment) throws IndexOutOfBoundsException {
        if (!printer.lengthRow.has(segment)) {
            throw new IndexOutOfBoundsException("no such segment");
        }
        return printer.lengthRow.at(segment);
    }

    public int segmentKind(int segment) throws IndexOutOfBoundsException {
        if (!printer.kindRow.has(segment)) {
            throw new IndexOutOfBoundsException("no such segment");
        }
        return printer.kindRow.at(segment);
    }

    public int guesses() {
        return printer.kindRow.count(LETTERS + GUESSED) + printer.kindRow.count(FIGURES + GUESSED);
    }

    public int doubtful() {
        return printer.kindRow.count(LETTERS + DOUBTFUL) + printer.kindRow.count(FIGURES + DOUBTFUL);
    }

    public int bells() {
        return printer.bellCount;
    }

    public int questions() {
        return printer.questionCount;
    }

    public int receiverShift() {
        return printer.shift;
    }

    public int wrongCharacters() {
        Row arrived = printer.printedRow;
        Row meant = line.characterRow;
        int common = Math.min(arrived.size(), meant.size());
        int wrong = Math.max(arrived.size(), meant.size()) - common;
        for (int i = 0; i < common; i++) {
            if (arrived.at(i) != meant.at(i)) {
                wrong++;
            }
        }
        return wrong;
    }

    public double plausibility() {
        int all = segments();
        if (all == 0) {
            return 1.0;
        }
        return (double) (all - doubtful()) / (double) all;
    }

    // ---- forecasts

    public int doubtfulWith(int number, int code) throws IndexOutOfBoundsException, IllegalArgumentException {
        if (number < 0 || number > received()) {
            throw new IndexOutOfBoundsException("no such place among the received codes");
        }
        if (code != TO_FIGURES && code != TO_LETTERS) {
            throw new IllegalArgumentException("the code is no shift");
        }
        return doubtful() + changeByCut(number);
    }

    public int bestRepair() {
        // One more shift repairs one segment at most, so none is better than the first that repairs one.
        for (int segment = 0; segment < segments(); segment++) {
            if (printer.kindRow.at(segment) >= DOUBTFUL) {
                int start = printer.startRow.at(segment);
                int end = start + printer.lengthRow.at(segment);
                int number = dictionary.firstRepairingCut(line.receivedRow, start, end);
                if (number != NONE) {
                    // Both shifts would do the same, and the code 30 has the lesser result.
                    return 2 * number;
                }
            }
        }
        return NONE;
    }

    // Whether a segment is doubtful does not depend on the shift, as both readings are looked at. So
    // one more shift changes the number of doubtful segments only if it cuts a segment in two.
    private int changeByCut(int number) {
        Row codes = line.receivedRow;
        int start = Codes.startOfSigns(codes, number);
        int end = Codes.endOfSigns(codes, number);
        if (start == number || end == number) {
            return 0;
        }
        return dictionary.doubtOf(codes, start, number) + dictionary.doubtOf(codes, number, end)
                - dictionary.doubtOf(codes, start, end);
    }

    // ---- undo

    public int undo() throws IllegalStateException {
        if (history.count == 0) {
            throw new IllegalStateException("no state is saved");
        }
        history.restore(line, dictionary);
        printer.decode(line, dictionary);
        return history.count;
    }

    public int savedStates() {
        return history.count;
    }

    public long digest() {
        long hash = FIRST_HASH;
        hash = 31 * hash + sent();
        hash = 31 * hash + received();
        hash = 31 * hash + senderShift();
        hash = 31 * hash + faults();
        hash = 31 * hash + words();
        hash = 31 * hash + printedLength();
        hash = 31 * hash + segments();
        hash = 31 * hash + guesses();
        hash = 31 * hash + doubtful();
        hash = 31 * hash + bells();
        hash = 31 * hash + questions();
        hash = 31 * hash + receiverShift();
        hash = 31 * hash + wrongCharacters();
        hash = 31 * hash + bestRepair();
        hash = line.receivedRow.hashOnto(hash);
        hash = printer.printedRow.hashOnto(hash);
        for (int segment = 0; segment < segments(); segment++) {
            hash = 31 * hash + printer.lengthRow.at(segment);
            hash = 31 * hash + printer.kindRow.at(segment);
        }
        for (int word = 0; word < words(); word++) {
            hash = 31 * hash + dictionary.lengthOf(word);
            hash = 31 * hash + printer.wordRow.count(word);
        }
        return hash;
    }

    /** A row of numbers up to a fixed capacity. Its array is made once, so that calls make none. */
    private static final class Row {
        private final int[] values;
        private int size;

        Row(int capacity) {
            values = new int[Math.max(capacity, 0)];
        }

        int size() {
            return size;
        }

        // The array's own length is asked too, so that no index can ever miss the array.
        boolean has(int index) {
            return index >= 0 && index < size && index < values.length;
        }

        int at(int index) {
            return index >= 0 && index < size && index < values.length ? values[index] : 0;
        }

        void set(int index, int value) {
            if (has(index)) {
                values[index] = value;
            }
        }

        void add(int value) {
            if (size >= 0 && size < values.length) {
                values[size] = value;
                size++;
            }
        }

        void remove(int index) {
            if (!has(index)) {
                return;
            }
            for (int i = index + 1; i < size; i++) {
                set(i - 1, at(i));
            }
            size--;
        }

        void clear() {
            size = 0;
        }

        void shorten(int newSize) {
            if (newSize >= 0 && newSize < size) {
                size = newSize;
            }
        }

        void fill(int newSize, int value) {
            clear();
            for (int i = 0; i < newSize; i++) {
                add(value);
            }
        }

        void copyFrom(Row other) {
            clear();
            for (int i = 0; i < other.size; i++) {
                add(other.at(i));
            }
        }

        int find(int value) {
            for (int i = 0; i < size; i++) {
                if (at(i) == value) {
                    return i;
                }
            }
            return NONE;
        }

        int count(int value) {
            int found = 0;
            for (int i = 0; i < size; i++) {
                if (at(i) == value) {
                    found++;
                }
            }
            return found;
        }

        long hashOnto(long start) {
            long hash = start;
            for (int i = 0; i < size; i++) {
                hash = 31 * hash + at(i);
            }
            return hash;
        }
    }

    /** The code table, and what a code does to a shift: the same for sender and receiver. */
    private static final class Codes {
        static boolean isLetter(int character) {
            return character >= 'a' && character <= 'z';
        }

        static boolean isSign(int code) {
            return code >= 1 && code <= LAST_SIGN_CODE;
        }

        static boolean isDigit(int code) {
            return code >= 1 && code <= LAST_DIGIT_CODE;
        }

        /** The code of a character; NONE if it is no character of the telex. */
        static int codeOf(int character) {
            if (isLetter(character)) {
                return character - 'a' + 1;
            }
            if (character == ' ') {
                return SPACE_CODE;
            }
            if (character == '\n') {
                return LINE_BREAK_CODE;
            }
            if (character == QUESTION || character == BELL) {
                return CALL_CODE;
            }
            return codeOfFigure(character);
        }

        private static int codeOfFigure(int character) {
            // A larger number would lose bits as a char and could be taken for a figure.
            if (character < 0 || character > 127) {
                return NONE;
            }
            int place = FIGURE_CHARACTERS.indexOf((char) character);
            return place < 0 ? NONE : place + 1;
        }

        /** The shift that a character of the telex needs; NONE if it has its code in each shift. */
        static int shiftFor(int character) {
            if (character == ' ' || character == '\n') {
                return NONE;
            }
            return isLetter(character) || character == QUESTION ? LETTERS : FIGURES;
        }

        /** The character that a code prints; NONE if it prints nothing. */
        static int characterOf(int code, int shift) {
            if (code == SPACE_CODE) {
                return ' ';
            }
            if (code == LINE_BREAK_CODE) {
                return '\n';
            }
            int place = code - 1;
            if (!isSign(code) || place < 0 || place >= FIGURE_CHARACTERS.length()) {
                return NONE;
            }
            return shift == LETTERS ? 'a' + place : FIGURE_CHARACTERS.charAt(place);
        }

        /** Where the signs begin that stand without a gap before a place; the place itself if none do. */
        static int startOfSigns(Row codes, int place) {
            for (int at = place; at > 0; at--) {
                if (!isSign(codes.at(at - 1))) {
                    return at;
                }
            }
            return 0;
        }

        /** Where the signs end that stand without a gap behind a place; the place itself if none do. */
        static int endOfSigns(Row codes, int place) {
            for (int at = place; at < codes.size(); at++) {
                if (!isSign(codes.at(at))) {
                    return at;
                }
            }
            return codes.size();
        }

        static int shiftBehind(int code, int shift, boolean unshifts) {
            if (code == TO_FIGURES) {
                return FIGURES;
            }
            if (code == TO_LETTERS || unshifts && code == SPACE_CODE) {
                return LETTERS;
            }
            return shift;
        }
    }

    /** The sender and the wire. Whether spaces unshift stands here, as sender and receiver share it. */
    private static final class Line {
        private final Row characterRow = new Row(MOST_CODES);
        private final Row sentRow = new Row(MOST_CODES);
        private final Row receivedRow = new Row(MOST_CODES);
        private final Row faultRow = new Row(MOST_CODES);
        private final Row encoded = new Row(2 * MOST_CHARACTERS);
        private int shift = LETTERS;
        private boolean unshifts;

        Line() {
            faultRow.fill(MOST_CODES, NONE);
        }

        /** The codes, shifts included, that would be sent now for the characters. */
        Row encode(Row characters) {
            encoded.clear();
            int current = shift;
            for (int i = 0; i < characters.size(); i++) {
                int character = characters.at(i);
                int needed = Codes.shiftFor(character);
                if (needed != NONE && needed != current) {
                    encoded.add(needed == FIGURES ? TO_FIGURES : TO_LETTERS);
                    current = needed;
                }
                int code = Codes.codeOf(character);
                encoded.add(code);
                current = Codes.shiftBehind(code, current, unshifts);
            }
            return encoded;
        }

        void transmit(Row characters) {
            Row codes = encode(characters);
            for (int i = 0; i < codes.size(); i++) {
                transmitCode(codes.at(i));
            }
            for (int i = 0; i < characters.size(); i++) {
                int character = characters.at(i);
                if (Codes.codeOf(character) != CALL_CODE) {
                    characterRow.add(character);
                }
            }
        }

        private void transmitCode(int code) {
            int fault = faultRow.at(sentRow.size());
            sentRow.add(code);
            shift = Codes.shiftBehind(code, shift, unshifts);
            if (fault == NONE) {
                receivedRow.add(code);
            } else if (fault != LOST) {
                receivedRow.add(code ^ (1 << (fault - 1)));
            }
        }
    }

    /** The words, each as one number: the code of letter i stands in the i-th five bits from below. */
    private static final class Dictionary {
        private final Row wordRow = new Row(MOST_WORDS);

        static int wordOfCharacters(Row characters) {
            if (characters.size() > MOST_LETTERS) {
                return NO_WORD;
            }
            int word = NO_WORD;
            for (int i = 0; i < characters.size(); i++) {
                if (!Codes.isLetter(characters.at(i))) {
                    return NO_WORD;
                }
                word |= Codes.codeOf(characters.at(i)) << (BITS_OF_CODE * i);
            }
            return word;
        }

        private static int wordOfCodes(Row codes, int start, int end) {
            if (end - start > MOST_LETTERS) {
                return NO_WORD;
            }
            int word = NO_WORD;
            for (int i = start; i < end; i++) {
                word |= codes.at(i) << (BITS_OF_CODE * (i - start));
            }
            return word;
        }

        private static boolean areDigits(Row codes, int start, int end) {
            for (int i = start; i < end; i++) {
                if (!Codes.isDigit(codes.at(i))) {
                    return false;
                }
            }
            return true;
        }

        /** The number of the word that a segment is in the letters shift; NONE if it is none. */
        int findSegment(Row codes, int start, int end) {
            int word = wordOfCodes(codes, start, end);
            return word == NO_WORD ? NONE : wordRow.find(word);
        }

        /** The code of a letter of a word; 0 behind its end. */
        int codeOfLetter(int number, int index) {
            return (wordRow.at(number) >> (BITS_OF_CODE * index)) & CODE_MASK;
        }

        int lengthOf(int number) {
            int length = 0;
            for (int i = 0; i < MOST_LETTERS; i++) {
                if (codeOfLetter(number, i) != 0) {
                    length++;
                }
            }
            return length;
        }

        /** The kind, as segmentKind() tells it, of a segment that begins in a shift. */
        int kindOf(Row codes, int start, int end, int shift) {
            boolean isWord = findSegment(codes, start, end) != NONE;
            boolean isNumber = areDigits(codes, start, end);
            if (shift == LETTERS ? isWord : isNumber) {
                return shift;
            }
            if (isWord) {
                return LETTERS + GUESSED;
            }
            return isNumber ? FIGURES + GUESSED : shift + DOUBTFUL;
        }

        /** The shift in which a segment is printed, which is the receiver's shift behind it too. */
        static int shiftOfKind(int kind) {
            return kind & 1;
        }

        private boolean isDoubtful(Row codes, int start, int end) {
            return findSegment(codes, start, end) == NONE && !areDigits(codes, start, end);
        }

        /** 1 for a segment that is doubtful, whatever the shift; 0 for another one. */
        int doubtOf(Row codes, int start, int end) {
            return isDoubtful(codes, start, end) ? 1 : 0;
        }

        /** The first place inside a segment where a cut leaves no doubtful part; NONE if there is none. */
        int firstRepairingCut(Row codes, int start, int end) {
            for (int place = start + 1; place < end; place++) {
                if (!isDoubtful(codes, start, place) && !isDoubtful(codes, place, end)) {
                    return place;
                }
            }
            return NONE;
        }
    }

    /** What is printed of the received codes by the present dictionary. */
    private static final class Printer {
        private final Row printedRow = new Row(MOST_CODES);
        private final Row startRow = new Row(MOST_CODES);
        private final Row lengthRow = new Row(MOST_CODES);
        private final Row kindRow = new Row(MOST_CODES);
        private final Row wordRow = new Row(MOST_CODES);
        private int shift = LETTERS;
        private int bellCount;
        private int questionCount;

        void decode(Line line, Dictionary dictionary) {
            reset();
            Row codes = line.receivedRow;
            int start = 0;
            for (int at = 0; at < codes.size(); at++) {
                int code = codes.at(at);
                if (!Codes.isSign(code)) {
                    printSegment(codes, start, at, dictionary);
                    obey(code, line.unshifts);
                    start = at + 1;
                }
            }
            printSegment(codes, start, codes.size(), dictionary);
        }

        private void reset() {
            printedRow.clear();
            startRow.clear();
            lengthRow.clear();
            kindRow.clear();
            wordRow.clear();
            shift = LETTERS;
            bellCount = 0;
            questionCount = 0;
        }

        private void printSegment(Row codes, int start, int end, Dictionary dictionary) {
            if (start >= end) {
                return;
            }
            int kind = dictionary.kindOf(codes, start, end, shift);
            shift = Dictionary.shiftOfKind(kind);
            kindRow.add(kind);
            startRow.add(start);
            lengthRow.add(end - start);
            wordRow.add(shift == LETTERS ? dictionary.findSegment(codes, start, end) : NONE);
            for (int i = start; i < end; i++) {
                printedRow.add(Codes.characterOf(codes.at(i), shift));
            }
        }

        private void obey(int code, boolean unshifts) {
            if (code == CALL_CODE && shift == FIGURES) {
                bellCount++;
            } else if (code == CALL_CODE) {
                questionCount++;
            }
            int character = Codes.characterOf(code, shift);
            if (character != NONE) {
                printedRow.add(character);
            }
            shift = Codes.shiftBehind(code, shift, unshifts);
        }
    }

    /**
     * A saved state. Of the rows that only grow it keeps the lengths: what was in them then still
     * stands in front, as codes sent later come behind.
     */
    private static final class Saved {
        private final Row faultRow = new Row(MOST_CODES);
        private final Row wordRow = new Row(MOST_WORDS);
        private int characterCount;
        private int sentCount;
        private int receivedCount;
        private int shift;
        private boolean unshifts;

        void take(Line line, Dictionary dictionary) {
            faultRow.copyFrom(line.faultRow);
            wordRow.copyFrom(dictionary.wordRow);
            characterCount = line.characterRow.size();
            sentCount = line.sentRow.size();
            receivedCount = line.receivedRow.size();
            shift = line.shift;
            unshifts = line.unshifts;
        }

        void give(Line line, Dictionary dictionary) {
            line.faultRow.copyFrom(faultRow);
            dictionary.wordRow.copyFrom(wordRow);
            line.characterRow.shorten(characterCount);
            line.sentRow.shorten(sentCount);
            line.receivedRow.shorten(receivedCount);
            line.shift = shift;
            line.unshifts = unshifts;
        }
    }

    /** The saved states, the oldest first. */
    private static final class History {
        private final Saved[] states = new Saved[MOST_SAVED];
        private int count;

        History() {
            for (int i = 0; i < states.length; i++) {
                states[i] = new Saved();
            }
        }

        void save(Line line, Dictionary dictionary) {
            if (count >= states.length) {
                discardOldest();
            }
            Saved free = stateAt(count);
            if (free != null) {
                free.take(line, dictionary);
                count++;
            }
        }

        void restore(Line line, Dictionary dictionary) {
            Saved last = stateAt(count - 1);
            if (last != null) {
                last.give(line, dictionary);
                count--;
            }
        }

        private Saved stateAt(int index) {
            return index >= 0 && index < states.length ? states[index] : null;
        }

        // The discarded state goes to the end, to be used again.
        private void discardOldest() {
            Saved oldest = stateAt(0);
            for (int i = 1; i < states.length; i++) {
                states[i - 1] = states[i];
            }
            count = states.length - 1;
            if (count >= 0 && count < states.length) {
                states[count] = oldest;
            }
        }
    }
}
