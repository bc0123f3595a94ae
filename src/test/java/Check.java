import java.util.function.Consumer;
import java.util.function.Supplier;
import java.util.function.ToLongFunction;

/**
 * Counts the answers that are not the ones due, each under the sentence of the document that asks for it, and ends
 * the program with exit code 1 if there was one.
 */
final class Check {
    private final String promise;
    private String sentence = "";
    private int sentences = 0;
    private int answers = 0;
    private int wrong = 0;

    Check(String promise) {
        this.promise = promise;
    }

    /** A test of its own: the document's words, and calls that would answer otherwise if they did not hold. */
    void sentence(String words, Runnable test) {
        sentence = words;
        sentences++;
        int before = answers;
        try {
            test.run();
        } catch (RuntimeException e) {
            complain("the test ended with " + e);
        }
        if (answers == before) {
            complain("nothing was asked");
        }
    }

    void due(String what, long got, long want) {
        answers++;
        if (got != want) {
            complain(what + " answered " + got + ", due is " + want);
        }
    }

    void due(String what, String got, String want) {
        answers++;
        if (!got.equals(want)) {
            complain(what + " is\n  " + got + ", due is\n  " + want);
        }
    }

    void dueBytes(String what, MessageReader reader, int... want) {
        int size = Make.size(reader);
        due(what + ": how many bytes there are", size, want.length);
        for (int i = 0; i < want.length && i < size; i++) {
            due(what + ": byteAt(" + i + ")", reader.byteAt(i), want[i]);
        }
    }

    /** What tells of the value given last, but for its payload. */
    void dueGiven(String what, MessageReader reader, int kind, int low, int high) {
        due(what + ": kind()", reader.kind(), kind);
        due(what + ": valueLow()", reader.valueLow(), low);
        due(what + ": valueHigh()", reader.valueHigh(), high);
    }

    /** What each open container still has, from the innermost one on. */
    void dueOpen(String what, MessageReader reader, long... left) {
        due(what + ": level()", reader.level(), left.length);
        for (int k = 0; k < left.length; k++) {
            due(what + ": remaining(" + k + ")", reader.remaining(k), left[k]);
        }
        due(what + ": remaining(" + left.length + ")", reader.remaining(left.length), MessageReader.NONE);
    }

    /** A call that answers so, and changes nothing. */
    void changesNothing(String what, long want, Supplier<MessageReader> make, ToLongFunction<MessageReader> call) {
        MessageReader reader = make.get();
        due(what, call.applyAsLong(reader), want);
        due(what + ": what is seen behind it", seen(reader), seen(make.get()));
    }

    void illegalArgument(String what, Supplier<MessageReader> make, Consumer<MessageReader> call) {
        refused(what, IllegalArgumentException.class, make, call);
    }

    void illegalState(String what, Supplier<MessageReader> make, Consumer<MessageReader> call) {
        refused(what, IllegalStateException.class, make, call);
    }

    private void refused(String what, Class<?> due, Supplier<MessageReader> make, Consumer<MessageReader> call) {
        MessageReader reader = make.get();
        String thrown = "nothing";
        try {
            call.accept(reader);
        } catch (RuntimeException e) {
            thrown = e.getClass().getName();
        }
        due(what + ": what was thrown", thrown, due.getName());
        due(what + ": what is seen behind it", seen(reader), seen(make.get()));
    }

    /**
     * What can be seen of a reader from outside, with some forty calls, since a full one has no more of its 512 left:
     * of many bytes the last ones, of many containers and payload bytes the first and the last ones.
     */
    static String seen(MessageReader reader) {
        StringBuilder text = new StringBuilder();
        int size = Make.size(reader);
        int low = reader.valueLow();
        int level = reader.level();
        text.append("size ").append(size).append(" consumed ").append(reader.consumed());
        text.append(" kind ").append(reader.kind()).append(" value ").append(reader.valueHigh()).append(':').append(low);
        text.append(" payload");
        for (int i : new int[] {0, 1, low - 1, low}) {
            text.append(' ').append(reader.payload(i));
        }
        text.append(" level ").append(level).append(" remaining");
        for (int k : new int[] {0, 1, Math.max(0, level - 1), level}) {
            text.append(' ').append(reader.remaining(k));
        }
        text.append(" whole ").append(reader.whole()).append(" bytes");
        for (int i = Math.max(0, size - 20); i < size; i++) {
            text.append(' ').append(reader.byteAt(i));
        }
        return text.toString();
    }

    private void complain(String text) {
        wrong++;
        System.out.println(promise + ", \"" + sentence + "\": " + text);
    }

    void finish() {
        System.out.println(sentences + " sentences, " + answers + " answers, " + wrong + " not as due");
        if (wrong != 0 || answers == 0) {
            System.exit(1);
        }
    }
}
