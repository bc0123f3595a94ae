import java.util.LinkedHashMap;
import java.util.Map;
import java.util.function.Consumer;
import java.util.function.Supplier;

/** All calls that throw, each in many states: what is thrown, and that nothing has changed behind it. */
public final class ThrowsTest {
    private static final Check CHECK = new Check("all calls");
    /** Calls that no state makes legal. */
    private static final Map<String, Consumer<MessageReader>> NEVER_LEGAL = new LinkedHashMap<>();
    /** Calls that are legal, but for the room that they need. */
    private static final Map<String, Consumer<MessageReader>> WITHOUT_ROOM = new LinkedHashMap<>();
    private static final Map<String, Supplier<MessageReader>> STATES = new LinkedHashMap<>();
    private static final Map<String, Supplier<MessageReader>> FULL = new LinkedHashMap<>();

    public static void main(String[] args) {
        calls();
        states();
        CHECK.sentence("In all calls illegal argument: a number is out of its bounds", ThrowsTest::illegalArguments);
        CHECK.sentence("Illegal state: as told", ThrowsTest::illegalStates);
        CHECK.sentence("Of several exceptions the one named first is thrown", ThrowsTest::severalAreDue);
        CHECK.sentence("a call that throws changes nothing", ThrowsTest::goesOnBehindIt);
        CHECK.finish();
    }

    private static void calls() {
        NEVER_LEGAL.put("feed(-1)", r -> r.feed(-1));
        NEVER_LEGAL.put("feed(256)", r -> r.feed(256));
        NEVER_LEGAL.put("put(0, 0)", r -> r.put(0, 0));
        NEVER_LEGAL.put("put(0, 9)", r -> r.put(0, 9));
        NEVER_LEGAL.put("put(0, -1)", r -> r.put(0, -1));
        NEVER_LEGAL.put("cut(-1)", r -> r.cut(-1));
        NEVER_LEGAL.put("cut(4097)", r -> r.cut(4097));
        NEVER_LEGAL.put("byteAt(-1)", r -> r.byteAt(-1));
        NEVER_LEGAL.put("byteAt(4096)", r -> r.byteAt(4096));
        NEVER_LEGAL.put("remaining(-1)", r -> r.remaining(-1));
        NEVER_LEGAL.put("pack(0, 0, 0)", r -> r.pack(0, 0, 0));
        NEVER_LEGAL.put("pack(13, 0, 0)", r -> r.pack(13, 0, 0));
        NEVER_LEGAL.put("pack(8, -1, 0)", r -> r.pack(8, -1, 0));
        NEVER_LEGAL.put("pack(11, -1, 0)", r -> r.pack(11, -1, 0));
        NEVER_LEGAL.put("pack(12, -1, 0)", r -> r.pack(12, -1, 0));
        NEVER_LEGAL.put("pack(12, 0, -129)", r -> r.pack(12, 0, -129));
        NEVER_LEGAL.put("pack(12, 0, 128)", r -> r.pack(12, 0, 128));
        WITHOUT_ROOM.put("feed(0)", r -> r.feed(0));
        WITHOUT_ROOM.put("feed(255)", r -> r.feed(255));
        WITHOUT_ROOM.put("put(0, 1)", r -> r.put(0, 1));
        WITHOUT_ROOM.put("put(0, 8)", r -> r.put(0, 8));
        WITHOUT_ROOM.put("pack(1, 0, 0)", r -> r.pack(1, 0, 0));
        WITHOUT_ROOM.put("pack(7, 0, 0)", r -> r.pack(7, 0, 0));
        WITHOUT_ROOM.put("pack(8, 2147483647, 0)", r -> r.pack(8, Make.GREATEST_INT, 0));
        WITHOUT_ROOM.put("pack(12, 0, 127)", r -> r.pack(12, 0, 127));
        WITHOUT_ROOM.put("pack(12, 0, -128)", r -> r.pack(12, 0, -128));
    }

    private static void states() {
        STATES.put("a new object", MessageReader::new);
        STATES.put("bytes that are not consumed", () -> Make.bytes(146, 161, 77, 1));
        STATES.put("an array that is open", () -> Make.behindText(1, 2));
        STATES.put("half a value", () -> Make.behindText(205, 1));
        STATES.put("a byte that is no value", () -> Make.behindText(193));
        STATES.put("100 open", () -> Make.nested(100, 145));
        FULL.put("4096 bytes", () -> Make.filled(4096));
        FULL.put("4096 bytes, some being consumed", () -> Make.filledBehindText(4096));
        FULL.put("4096 bytes, all being consumed", ThrowsTest::allConsumed);
    }

    private static MessageReader allConsumed() {
        MessageReader reader = Make.longestText();
        reader.skip();
        return reader;
    }

    private static void illegalArguments() {
        STATES.forEach((state, make) -> NEVER_LEGAL.forEach(
            (call, run) -> CHECK.illegalArgument(call + " with " + state, make, run)));
    }

    private static void illegalStates() {
        FULL.forEach((state, make) -> WITHOUT_ROOM.forEach(
            (call, run) -> CHECK.illegalState(call + " with " + state, make, run)));
    }

    private static void severalAreDue() {
        FULL.forEach((state, make) -> NEVER_LEGAL.forEach(
            (call, run) -> CHECK.illegalArgument(call + " with " + state, make, run)));
    }

    /** One reader on which each illegal call is made between the legal ones; the answers are those without them. */
    private static void goesOnBehindIt() {
        int[] bytes = {147, 129, 1, 162, 8, 9, 146, 145, 2, 3, 199, 1, 128, 5, 193};
        for (Map.Entry<String, Consumer<MessageReader>> illegal : NEVER_LEGAL.entrySet()) {
            MessageReader reader = new MessageReader();
            StringBuilder answers = new StringBuilder();
            for (int b : bytes) {
                refuse(illegal.getValue(), reader);
                answers.append(reader.feed(b)).append(' ');
                refuse(illegal.getValue(), reader);
                answers.append(reader.next()).append(' ');
            }
            answers.append(reader.consumed()).append(' ').append(reader.level());
            CHECK.due("a run with " + illegal.getKey() + " in it", answers.toString(),
                "1 10 2 11 3 4 4 -2 5 -2 6 8 7 10 8 10 9 4 10 4 11 -2 12 -2 13 -2 14 12 15 -3 14 0");
        }
    }

    private static void refuse(Consumer<MessageReader> call, MessageReader reader) {
        try {
            call.accept(reader);
        } catch (IllegalArgumentException e) {
            return;
        }
        throw new IllegalStateException("a call that is never legal was taken");
    }
}
