/** Promises 1 to 5: a new object, feed, put, cut, byteAt. */
public final class BytesTest {
    private static final int MOST = 4096;
    private static final Check CHECK = new Check();

    public static void main(String[] args) {
        aNewObject();
        feed();
        put();
        cut();
        byteAt();
        CHECK.finish();
    }

    private static void aNewObject() {
        CHECK.due("a new object", Check.stateOf(new MessageReader()),
            "size 0 consumed 0 kind -1 value 0:0 payload -1,-1 level 0 remaining -1,-1 whole 0 bytes");
        CHECK.due("a new object's next()", new MessageReader().next(), MessageReader.MORE);
        CHECK.due("a new object's skip()", new MessageReader().skip(), MessageReader.MORE);
        Check.reader(1, 2, 3).next();
        CHECK.due("a new object beside an old one", Check.size(new MessageReader()), 0);
    }

    private static void feed() {
        MessageReader reader = new MessageReader();
        CHECK.due("feed(0)", reader.feed(0), 1);
        CHECK.due("feed(255)", reader.feed(255), 2);
        CHECK.due("feed(128)", reader.feed(128), 3);
        CHECK.dueBytes("fed", reader, 0, 255, 128);
        reader.next();
        CHECK.due("feed(7) behind a consumed byte", reader.feed(7), 4);
        for (int b : new int[] {-1, 256, Integer.MIN_VALUE, Integer.MAX_VALUE}) {
            CHECK.illegalArgument("feed(" + b + ")", () -> Check.reader(1, 2), r -> r.feed(b));
            CHECK.illegalArgument("feed(" + b + ") without room", () -> Check.filled(MOST), r -> r.feed(b));
        }
        CHECK.due("feed() of the last byte", Check.filled(MOST - 1).feed(9), MOST);
        CHECK.illegalState("feed() without room", () -> Check.filled(MOST), r -> r.feed(0));
    }

    private static void put() {
        MessageReader reader = new MessageReader();
        CHECK.due("put(.., 8)", reader.put(0x8091A2B3C4D5E6F7L, 8), 8);
        CHECK.dueBytes("put(.., 8)", reader, 0x80, 0x91, 0xA2, 0xB3, 0xC4, 0xD5, 0xE6, 0xF7);
        reader = Check.reader(1);
        CHECK.due("put(.., 1)", reader.put(0x0102030405060708L, 1), 2);
        CHECK.due("put(.., 3)", reader.put(-2L, 3), 5);
        CHECK.due("put(.., 5)", reader.put(0x1122334455667788L, 5), 10);
        CHECK.dueBytes("three puts", reader, 1, 8, 255, 255, 254, 0x44, 0x55, 0x66, 0x77, 0x88);
        for (int n : new int[] {0, -1, 9, Integer.MIN_VALUE, Integer.MAX_VALUE}) {
            CHECK.illegalArgument("put(1, " + n + ")", () -> Check.reader(1, 2), r -> r.put(1, n));
            CHECK.illegalArgument("put(1, " + n + ") without room", () -> Check.filled(MOST), r -> r.put(1, n));
        }
        for (int n = 1; n <= 8; n++) {
            int width = n;
            CHECK.due("put() of the last " + n, Check.filled(MOST - n).put(5, n), MOST);
            CHECK.illegalState("put() of one too many, " + n, () -> Check.filled(MOST - width + 1), r -> r.put(5, width));
        }
    }

    private static void cut() {
        MessageReader reader = Check.reader(1, 2, 3, 4);
        CHECK.due("cut(0)", reader.cut(0), 4);
        CHECK.due("cut(1)", reader.cut(1), 3);
        reader.next();
        reader.feed(9);
        CHECK.due("cut(2)", reader.cut(2), 2);
        CHECK.dueBytes("what is left", reader, 1, 2);
        CHECK.due("cut() of all that is not consumed", reader.cut(1), 1);
        CHECK.due("cut() leaves the value given last", reader.valueLow(), 1);
        CHECK.due("feed() behind a cut", reader.feed(8), 2);
        CHECK.dueBytes("fed behind a cut", reader, 1, 8);
        for (int n : new int[] {-1, 3, 4, Integer.MIN_VALUE, Integer.MAX_VALUE}) {
            CHECK.illegalArgument("cut(" + n + ") of two", BytesTest::oneOfThreeConsumed, r -> r.cut(n));
        }
        CHECK.illegalArgument("cut(1) of none", MessageReader::new, r -> r.cut(1));
        CHECK.due("cut() of all", Check.filled(MOST).cut(MOST), 0);
    }

    private static void byteAt() {
        MessageReader reader = oneOfThreeConsumed();
        CHECK.due("byteAt() of a consumed byte", reader.byteAt(0), 1);
        CHECK.due("byteAt() of the last byte", reader.byteAt(2), 200);
        for (int i : new int[] {-1, 3, 4096, Integer.MIN_VALUE, Integer.MAX_VALUE}) {
            CHECK.illegalArgument("byteAt(" + i + ") of three", BytesTest::oneOfThreeConsumed, r -> r.byteAt(i));
        }
        CHECK.illegalArgument("byteAt(2) behind a cut", BytesTest::oneOfThreeCut, r -> r.byteAt(2));
        CHECK.due("byteAt(4095)", Check.filled(MOST).byteAt(MOST - 1), 255);
        CHECK.illegalArgument("byteAt(4096) of 4096", () -> Check.filled(MOST), r -> r.byteAt(MOST));
    }

    private static MessageReader oneOfThreeConsumed() {
        MessageReader reader = Check.reader(1, 2, 200);
        reader.next();
        return reader;
    }

    private static MessageReader oneOfThreeCut() {
        MessageReader reader = Check.reader(1, 2, 3);
        reader.cut(1);
        return reader;
    }
}
