/** Promise 2: feed. */
public final class FeedTest {
    private static final Check CHECK = new Check("promise 2");

    public static void main(String[] args) {
        CHECK.sentence("A byte (0 .. 255) comes", FeedTest::everyByte);
        CHECK.sentence("comes behind the others", FeedTest::behindTheOthers);
        CHECK.sentence("how many there are", FeedTest::howMany);
        CHECK.sentence("Illegal argument", FeedTest::noByte);
        CHECK.sentence("4096 at most", FeedTest::theLastOne);
        CHECK.sentence("illegal state: there are 4096", FeedTest::full);
        CHECK.sentence("Of several exceptions the one named first is thrown", FeedTest::noByteAndFull);
        CHECK.finish();
    }

    private static void everyByte() {
        for (int b = 0; b <= 255; b++) {
            CHECK.dueBytes("feed(" + b + ")", Make.bytes(b), b);
        }
    }

    private static void behindTheOthers() {
        MessageReader reader = Make.bytes(1, 2);
        reader.feed(3);
        CHECK.dueBytes("behind two", reader, 1, 2, 3);
        reader.next();
        reader.feed(4);
        CHECK.dueBytes("behind a consumed one", reader, 1, 2, 3, 4);
        reader.cut(2);
        reader.feed(5);
        CHECK.dueBytes("behind a cut", reader, 1, 2, 5);
        CHECK.due("behind a cut: consumed()", reader.consumed(), 1);
    }

    private static void howMany() {
        MessageReader reader = new MessageReader();
        CHECK.due("the first", reader.feed(0), 1);
        CHECK.due("the second", reader.feed(255), 2);
        reader.next();
        CHECK.due("the third, one being consumed", reader.feed(7), 3);
        reader.cut(2);
        CHECK.due("the second, two being cut", reader.feed(7), 2);
    }

    private static void noByte() {
        for (int b : new int[] {-1, 256, -128, -255, -256, 511, Make.LEAST_INT, Make.GREATEST_INT}) {
            CHECK.illegalArgument("feed(" + b + ") to none", MessageReader::new, r -> r.feed(b));
            CHECK.illegalArgument("feed(" + b + ")", () -> Make.behindText(1), r -> r.feed(b));
        }
    }

    private static void theLastOne() {
        CHECK.due("feed() to 4094", Make.filled(4094).feed(9), 4095);
        MessageReader reader = Make.filled(4095);
        CHECK.due("feed() to 4095", reader.feed(9), 4096);
        CHECK.due("the last byte", reader.byteAt(4095), 9);
    }

    private static void full() {
        for (int b : new int[] {0, 255}) {
            CHECK.illegalState("feed(" + b + ") to 4096", () -> Make.filled(4096), r -> r.feed(b));
            CHECK.illegalState("some consumed", () -> Make.filledBehindText(4096), r -> r.feed(b));
            CHECK.illegalState("all consumed", FeedTest::allConsumed, r -> r.feed(b));
        }
        MessageReader reader = Make.filled(4096);
        reader.cut(1);
        CHECK.due("feed() behind a cut of 4096", reader.feed(9), 4096);
    }

    private static MessageReader allConsumed() {
        MessageReader reader = Make.longestText();
        reader.next();
        return reader;
    }

    private static void noByteAndFull() {
        for (int b : new int[] {-1, 256, Make.LEAST_INT, Make.GREATEST_INT}) {
            CHECK.illegalArgument("feed(" + b + ") to 4096", () -> Make.filled(4096), r -> r.feed(b));
        }
    }
}
