/** The example of README.md: the same calls in the same order, with the answers that it tells. */
public final class ReadmeExampleTest {
    public static void main(String[] args) {
        TelexReceiver telex = new TelexReceiver();
        telex.append('w');
        telex.append('e');
        Check.due("learn()", 1, telex::learn);
        Check.due("setFault(2, 0)", TelexReceiver.NONE, () -> telex.setFault(2, 0));
        telex.append('w');
        telex.append('e');
        telex.append('1');
        telex.append('2');
        Check.due("codesToSend()", 5, telex::codesToSend);
        Check.due("send()", 4, telex::send);
        Check.due("printed(2)", (int) 'a', () -> telex.printed(2));
        Check.due("wrongCharacters()", 2, telex::wrongCharacters);
        Check.due("segmentKind(0)", 4, () -> telex.segmentKind(0));
        Check.due("bestRepair()", 4, telex::bestRepair);
        Check.due("doubtfulWith(2, 30)", 0, () -> telex.doubtfulWith(2, 30));
        Check.due("undo()", 2, telex::undo);
        Check.due("sent()", 0, telex::sent);
        Check.due("savedStates()", 2, telex::savedStates);
        Check.finish();
    }
}
