import java.util.function.Consumer;
import java.util.function.Supplier;

/** Counts the answers that are not the ones due, and ends the test with exit code 1 if there was one. */
final class Check {
    private int answers = 0;
    private int wrong = 0;

    /** A reader with these bytes, none of them consumed. */
    static MessageReader reader(int... bytes) {
        MessageReader reader = new MessageReader();
        for (int b : bytes) {
            reader.feed(b);
        }
        return reader;
    }

    /** A reader of so many bytes (floats, then 255s), made with so few calls that some of its 512 are left. */
    static MessageReader filled(int size) {
        MessageReader reader = new MessageReader();
        int left = size;
        for (; left >= 9; left -= 9) {
            reader.pack(7, -1, -1);
        }
        for (; left > 0; left--) {
            reader.feed(255);
        }
        return reader;
    }

    /** These bytes behind an array of two and a text in it that were given. */
    static MessageReader behindText(int... bytes) {
        MessageReader reader = reader(146, 161, 77);
        reader.next();
        reader.next();
        for (int b : bytes) {
            reader.feed(b);
        }
        return reader;
    }

    static int size(MessageReader reader) {
        return reader.cut(0);
    }

    /** What can be seen of a reader from outside; of many bytes, the last ones. */
    static String stateOf(MessageReader reader) {
        StringBuilder state = new StringBuilder();
        int size = size(reader);
        state.append("size ").append(size).append(" consumed ").append(reader.consumed());
        state.append(" kind ").append(reader.kind());
        state.append(" value ").append(reader.valueHigh()).append(':').append(reader.valueLow());
        state.append(" payload ").append(reader.payload(0)).append(',').append(reader.payload(1));
        state.append(" level ").append(reader.level());
        state.append(" remaining ").append(reader.remaining(0)).append(',').append(reader.remaining(1));
        state.append(" whole ").append(reader.whole()).append(" bytes");
        for (int i = Math.max(0, size - 20); i < size; i++) {
            state.append(' ').append(reader.byteAt(i));
        }
        return state.toString();
    }

    void due(String what, long got, long want) {
        answers++;
        if (got != want) {
            complain(what + " answered " + got + ", due is " + want);
        }
    }

    void due(String what, String got, String want) {
        answers++;
        if (!got.equals(want)) {
            complain(what + " answered\n  " + got + ", due is\n  " + want);
        }
    }

    void dueBytes(String what, MessageReader reader, int... want) {
        due(what + ": size", size(reader), want.length);
        for (int i = 0; i < want.length && i < size(reader); i++) {
            due(what + ": byte " + i, reader.byteAt(i), want[i]);
        }
    }

    void illegalArgument(String what, Supplier<MessageReader> make, Consumer<MessageReader> call) {
        refused(what, IllegalArgumentException.class, make, call);
    }

    void illegalState(String what, Supplier<MessageReader> make, Consumer<MessageReader> call) {
        refused(what, IllegalStateException.class, make, call);
    }

    /** A call that answers, but changes nothing. */
    void changesNothing(String what, Supplier<MessageReader> make, Consumer<MessageReader> call) {
        MessageReader reader = make.get();
        call.accept(reader);
        due(what + ": the state behind it", stateOf(reader), stateOf(make.get()));
    }

    private void refused(String what, Class<?> due, Supplier<MessageReader> make, Consumer<MessageReader> call) {
        MessageReader reader = make.get();
        String thrown = "nothing";
        try {
            call.accept(reader);
        } catch (RuntimeException e) {
            thrown = e.getClass().getName();
        }
        due(what + ": thrown", thrown, due.getName());
        due(what + ": the state behind it", stateOf(reader), stateOf(make.get()));
    }

    private void complain(String text) {
        wrong++;
        System.out.println(text);
    }

    void finish() {
        System.out.println(answers + " answers, " + wrong + " not as due");
        if (wrong != 0 || answers == 0) {
            System.exit(1);
        }
    }
}
