import java.lang.reflect.Constructor;
import java.lang.reflect.Field;
import java.lang.reflect.Method;
import java.lang.reflect.Modifier;
import java.util.Arrays;
import java.util.Set;
import java.util.TreeSet;

/** The public face, and promise 1: a new object. */
public final class FaceTest {
    private static final String[] FACE = {
        "int append(int) IllegalArgumentException IllegalStateException",
        "int clearBuffer()",
        "int codesToSend()",
        "int send() IllegalStateException",
        "int setFault(int,int) IndexOutOfBoundsException IllegalArgumentException",
        "int sent()",
        "int received()",
        "int sentCode(int) IndexOutOfBoundsException",
        "int receivedCode(int) IndexOutOfBoundsException",
        "int senderShift()",
        "int faults()",
        "boolean unshiftOnSpace(boolean)",
        "int learn() IllegalArgumentException IllegalStateException",
        "int forget(int) IndexOutOfBoundsException",
        "int words()",
        "int wordLetter(int,int) IndexOutOfBoundsException",
        "int uses(int) IndexOutOfBoundsException",
        "int printedLength()",
        "int printed(int) IndexOutOfBoundsException",
        "int segments()",
        "int segmentLength(int) IndexOutOfBoundsException",
        "int segmentKind(int) IndexOutOfBoundsException",
        "int guesses()",
        "int doubtful()",
        "int bells()",
        "int questions()",
        "int receiverShift()",
        "int wrongCharacters()",
        "double plausibility()",
        "int doubtfulWith(int,int) IndexOutOfBoundsException IllegalArgumentException",
        "int bestRepair()",
        "int undo() IllegalStateException",
        "int savedStates()",
        "long digest()",
    };

    private static String told(Method method) {
        StringBuilder text = new StringBuilder();
        text.append(method.getReturnType()).append(' ').append(method.getName()).append('(');
        String comma = "";
        for (Class<?> type : method.getParameterTypes()) {
            text.append(comma).append(type);
            comma = ",";
        }
        text.append(')');
        for (Class<?> type : method.getExceptionTypes()) {
            text.append(' ').append(type.getSimpleName());
        }
        return text.toString();
    }

    private static void testFace() {
        Set<String> open = new TreeSet<>();
        Set<String> publicNames = new TreeSet<>();
        Set<String> privateNames = new TreeSet<>();
        for (Method method : TelexReceiver.class.getDeclaredMethods()) {
            if (Modifier.isPrivate(method.getModifiers())) {
                privateNames.add(method.getName());
            } else {
                open.add(told(method));
                publicNames.add(method.getName());
                Check.due(method + " is public and of the object", true, () -> Modifier.isPublic(method.getModifiers())
                        && !Modifier.isStatic(method.getModifiers()));
            }
        }
        privateNames.retainAll(publicNames);
        Check.due("the methods", new TreeSet<>(Arrays.asList(FACE)), () -> open);
        Check.due("private methods with the name of a public one", Set.of(), () -> privateNames);
        Constructor<?>[] constructors = TelexReceiver.class.getDeclaredConstructors();
        Check.due("constructors", 1, () -> constructors.length);
        Check.due("the constructor", "public TelexReceiver()", () -> constructors[0].toString());
        Check.due("the class", "public final", () -> Modifier.toString(TelexReceiver.class.getModifiers()));
        for (Field field : TelexReceiver.class.getDeclaredFields()) {
            String want = field.getName().equals("NONE") ? "public static final" : "private";
            Check.due("the field " + field.getName(), true, () -> Modifier.toString(field.getModifiers()).startsWith(want));
        }
        Check.due("NONE", -1, () -> TelexReceiver.NONE);
    }

    private static void testNewObject() {
        TelexReceiver x = new TelexReceiver();
        Check.due("P1 sent()", 0, x::sent);
        Check.due("P1 received()", 0, x::received);
        Check.due("P1 senderShift()", 0, x::senderShift);
        Check.due("P1 receiverShift()", 0, x::receiverShift);
        Check.due("P1 faults()", 0, x::faults);
        Check.due("P1 words()", 0, x::words);
        Check.due("P1 printedLength()", 0, x::printedLength);
        Check.due("P1 segments()", 0, x::segments);
        Check.due("P1 guesses()", 0, x::guesses);
        Check.due("P1 doubtful()", 0, x::doubtful);
        Check.due("P1 bells()", 0, x::bells);
        Check.due("P1 questions()", 0, x::questions);
        Check.due("P1 wrongCharacters()", 0, x::wrongCharacters);
        Check.due("P1 plausibility()", 1.0, x::plausibility);
        Check.due("P1 bestRepair()", -1, x::bestRepair);
        Check.due("P1 savedStates()", 0, x::savedStates);
        Check.due("P1 codesToSend()", 0, x::codesToSend);
        Check.due("P1 clearBuffer()", 0, x::clearBuffer);
        Check.due("P1 unshiftOnSpace(true)", false, () -> x.unshiftOnSpace(true));
        Check.due("P1 a fault at 0", -1, () -> x.setFault(0, -1));
        Check.due("P1 a fault at 199", -1, () -> x.setFault(199, -1));
    }

    private static void testObjectsAreApart() {
        TelexReceiver one = new TelexReceiver();
        TelexReceiver other = new TelexReceiver();
        long fresh = other.digest();
        Check.learn(one, "we");
        Check.send(one, "we 12");
        one.setFault(3, 3);
        one.append('q');
        Check.due("P1 digest() of another object", fresh, other::digest);
        Check.due("P1 clearBuffer() of another object", 0, other::clearBuffer);
        Check.due("P1 savedStates() of another object", 0, other::savedStates);
    }

    public static void main(String[] args) {
        testFace();
        testNewObject();
        testObjectsAreApart();
        Check.finish();
    }
}
