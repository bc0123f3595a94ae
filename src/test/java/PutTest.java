import java.util.Arrays;

/** Promise 3: put. */
public final class PutTest {
    private static final long MIXED = 0x8091A2B3C4D5E6F7L;
    private static final int[] MIXED_BYTES = {0x80, 0x91, 0xA2, 0xB3, 0xC4, 0xD5, 0xE6, 0xF7};
    private static final Check CHECK = new Check("promise 3");

    public static void main(String[] args) {
        CHECK.sentence("n bytes (1 .. 8) of a number come, the lowest n, of these the highest first", PutTest::lowest);
        CHECK.sentence("of a number", PutTest::everyNumber);
        CHECK.sentence("how many bytes there are", PutTest::howMany);
        CHECK.sentence("Illegal argument", PutTest::noSuchCount);
        CHECK.sentence("4096 at most", PutTest::justFits);
        CHECK.sentence("illegal state: there would be more than 4096", PutTest::tooMany);
        CHECK.sentence("Of several exceptions the one named first is thrown", PutTest::noSuchCountAndFull);
        CHECK.finish();
    }

    private static void lowest() {
        for (int n = 1; n <= 8; n++) {
            MessageReader reader = new MessageReader();
            reader.put(MIXED, n);
            CHECK.dueBytes("put(.., " + n + ")", reader, Arrays.copyOfRange(MIXED_BYTES, 8 - n, 8));
        }
        MessageReader reader = Make.bytes(1);
        reader.put(0x0203, 2);
        reader.put(4, 1);
        CHECK.dueBytes("one behind the other", reader, 1, 2, 3, 4);
    }

    private static void everyNumber() {
        number(0, 0, 0, 0, 0, 0, 0, 0, 0);
        number(-1, 255, 255, 255, 255, 255, 255, 255, 255);
        number(Long.MIN_VALUE, 128, 0, 0, 0, 0, 0, 0, 0);
        number(Long.MAX_VALUE, 127, 255, 255, 255, 255, 255, 255, 255);
        MessageReader reader = new MessageReader();
        reader.put(Long.MIN_VALUE, 7);
        reader.put(Long.MAX_VALUE, 1);
        reader.put(-256, 1);
        CHECK.dueBytes("the highest bytes count for nothing", reader, 0, 0, 0, 0, 0, 0, 0, 255, 0);
    }

    private static void number(long number, int... due) {
        MessageReader reader = new MessageReader();
        reader.put(number, 8);
        CHECK.dueBytes("put(" + number + ", 8)", reader, due);
    }

    private static void howMany() {
        MessageReader reader = Make.bytes(1);
        CHECK.due("one and 8", reader.put(1, 8), 9);
        CHECK.due("nine and 1", reader.put(1, 1), 10);
        reader.next();
        CHECK.due("ten and 3, one being consumed", reader.put(1, 3), 13);
        reader.cut(12);
        CHECK.due("one and 2, the others being cut", reader.put(1, 2), 3);
    }

    private static void noSuchCount() {
        for (int n : new int[] {0, 9, -1, 16, 64, Make.LEAST_INT, Make.GREATEST_INT}) {
            CHECK.illegalArgument("put(1, " + n + ") to none", MessageReader::new, r -> r.put(1, n));
            CHECK.illegalArgument("put(1, " + n + ")", () -> Make.behindText(1), r -> r.put(1, n));
        }
    }

    private static void justFits() {
        for (int n = 1; n <= 8; n++) {
            MessageReader reader = Make.filled(4096 - n);
            CHECK.due("put(.., " + n + ") to " + (4096 - n), reader.put(MIXED, n), 4096);
            CHECK.due("the first of them", reader.byteAt(4096 - n), MIXED_BYTES[8 - n]);
            CHECK.due("the last of them", reader.byteAt(4095), 0xF7);
        }
    }

    private static void tooMany() {
        for (int count = 1; count <= 8; count++) {
            int n = count;
            CHECK.illegalState("one too many, " + n, () -> Make.filled(4097 - n), r -> r.put(5, n));
            CHECK.illegalState(n + " to 4096", () -> Make.filled(4096), r -> r.put(5, n));
            CHECK.illegalState("some consumed, " + n, () -> Make.filledBehindText(4097 - n), r -> r.put(5, n));
        }
        MessageReader reader = Make.filled(4096);
        reader.cut(8);
        CHECK.due("put() behind a cut of 4096", reader.put(5, 8), 4096);
    }

    private static void noSuchCountAndFull() {
        for (int n : new int[] {0, 9, -1, Make.LEAST_INT, Make.GREATEST_INT}) {
            CHECK.illegalArgument("put(1, " + n + ") to 4096", () -> Make.filled(4096), r -> r.put(1, n));
            CHECK.illegalArgument("put(1, " + n + ") to 4095", () -> Make.filled(4095), r -> r.put(1, n));
        }
    }
}
