import java.util.Arrays;

/** Promise 7: skip. */
public final class SkipTest {
    private static final int MORE = MessageReader.MORE;
    private static final int INVALID = MessageReader.INVALID;
    private static final int LARGE = MessageReader.LARGE;
    private static final Check CHECK = new Check("promise 7");

    public static void main(String[] args) {
        CHECK.sentence("SKIP consumes the next value with all that is in it", SkipTest::wholeValues);
        CHECK.sentence("how many bytes were consumed", SkipTest::howMany);
        CHECK.sentence("if it is there wholly; otherwise nothing changes", SkipTest::cutShort);
        CHECK.sentence("MORE .. by the first head, in the order in which they stand, that is so", SkipTest::more);
        CHECK.sentence("INVALID .. by the first head, in the order in which they stand, that is so",
            SkipTest::invalid);
        CHECK.sentence("LARGE .. by the first head, in the order in which they stand, that is so", SkipTest::large);
        CHECK.sentence("(How deep it goes counts for nothing.)", SkipTest::deepValues);
        CHECK.sentence("and 100 containers are OPEN", SkipTest::with100Open);
        CHECK.sentence("The value given last is then the last one that was consumed", SkipTest::valueGivenLast);
        CHECK.sentence("a value is a child of the innermost one", SkipTest::childOfOpenContainer);
        CHECK.sentence("above 2^31 - 1", SkipTest::largestCounts);
        CHECK.finish();
    }

    private static void wholeValue(int... bytes) {
        String what = "skip() of " + Arrays.toString(bytes);
        MessageReader reader = Make.feed(Make.bytes(bytes), 193);
        CHECK.due(what, reader.skip(), bytes.length);
        CHECK.due(what + ": consumed()", reader.consumed(), bytes.length);
        CHECK.dueOpen(what, reader);
        CHECK.due(what + ": next() behind it", reader.next(), INVALID);
    }

    private static final int[][] WHOLE = {
        {0}, {127}, {192}, {194}, {195}, {224}, {255}, {204, 1}, {205, 1, 2}, {206, 1, 2, 3, 4}, {208, 1}, {209, 1, 2},
        {210, 1, 2, 3, 4}, {202, 1, 2, 3, 4}, {203, 1, 2, 3, 4, 5, 6, 7, 8}, {207, 1, 2, 3, 4, 5, 6, 7, 8},
        {211, 1, 2, 3, 4, 5, 6, 7, 8}, {160}, {163, 1, 2, 3}, {217, 0}, {217, 1, 9}, {218, 0, 1, 9},
        {219, 0, 0, 0, 1, 9}, {196, 0}, {196, 1, 9}, {197, 0, 1, 9}, {198, 0, 0, 0, 1, 9}, {199, 0, 5},
        {199, 2, 5, 193, 193}, {200, 0, 1, 5, 9}, {201, 0, 0, 0, 1, 5, 9}, {212, 5, 9}, {213, 5, 9, 9},
        {214, 5, 9, 9, 9, 9}, {215, 5, 1, 2, 3, 4, 5, 6, 7, 8}, {144}, {128}, {220, 0, 0}, {221, 0, 0, 0, 0},
        {222, 0, 0}, {223, 0, 0, 0, 0}, {145, 1}, {129, 1, 2}, {146, 144, 128}, {147, 1, 162, 8, 8, 192},
        {130, 1, 145, 2, 3, 129, 4, 144}, {145, 145, 145, 146, 1, 2}, {146, 145, 1, 145, 2},
        {220, 0, 2, 222, 0, 1, 203, 1, 2, 3, 4, 5, 6, 7, 8, 216, 1, 0, 1, 2, 3, 4, 5, 6, 7, 8, 9, 0, 1, 2, 3, 4, 5,
            221, 0, 0, 0, 1, 223, 0, 0, 0, 1, 1, 2},
    };

    private static void wholeValues() {
        for (int[] bytes : WHOLE) {
            wholeValue(bytes);
        }
    }

    private static void howMany() {
        MessageReader reader = Make.bytes(1, 146, 161, 9, 144, 203, 1, 2, 3, 4, 5, 6, 7, 8);
        CHECK.due("a number", reader.skip(), 1);
        CHECK.due("an array with a text and an array", reader.skip(), 4);
        CHECK.due("a float", reader.skip(), 9);
        CHECK.due("none", reader.skip(), MORE);
        MessageReader all = new MessageReader();
        all.pack(10, 455, 0);
        CHECK.due("all 4096", fillWithFloats(all).skip(), 4096);
        CHECK.due("consumed() behind all", all.consumed(), 4096);
        CHECK.dueGiven("behind all", all, 8, 6, 0);
        CHECK.due("skip() behind all", all.skip(), MORE);
    }

    /** Behind 3 bytes, 454 floats and a text of 6 bytes: 4096 in all. */
    private static MessageReader fillWithFloats(MessageReader reader) {
        Make.fill(reader, 3 + 454 * 9);
        reader.feed(166);
        reader.put(0, 6);
        return reader;
    }

    private static void notSkipped(int due, int... bytes) {
        CHECK.changesNothing("skip() of " + Arrays.toString(bytes), due,
            () -> Make.behindText(bytes), MessageReader::skip);
    }

    private static void cutShort() {
        for (int[] bytes : WHOLE) {
            for (int there = 0; there < bytes.length; there++) {
                notSkipped(MORE, Arrays.copyOf(bytes, there));
            }
        }
        MessageReader oneLess = new MessageReader();
        oneLess.pack(10, 456, 0);
        CHECK.due("skip() of 455 of 456 children, the bytes being full", fillWithFloats(oneLess).skip(), MORE);
    }

    private static void more() {
        notSkipped(MORE, 146, 163, 193, 193);
        notSkipped(MORE, 146, 198, 127, 255, 255, 255, 193);
        notSkipped(MORE, 146, 205, 193);
        notSkipped(MORE, 146, 1, 201, 255, 255, 255, 255);
        notSkipped(MORE, 146, 162, 193);
        notSkipped(MORE, 146, 1, 198, 128, 0, 0);
        notSkipped(MORE, 130, 1, 2, 3);
        notSkipped(MORE, 221, 127, 255, 255, 255, 1, 2, 3);
    }

    private static void invalid() {
        notSkipped(INVALID, 193);
        notSkipped(INVALID, 193, 198, 128, 0, 0, 0);
        notSkipped(INVALID, 147, 1, 193);
        notSkipped(INVALID, 147, 1, 193, 2);
        notSkipped(INVALID, 147, 193, 198, 255, 255, 255, 255);
        notSkipped(INVALID, 145, 129, 1, 193, 198, 255, 255, 255, 255);
        notSkipped(INVALID, 147, 193, 162, 1);
        notSkipped(INVALID, 221, 127, 255, 255, 255, 193);
        MessageReader reader = Make.bytes(145, 1, 193);
        CHECK.due("skip() of what stands before 193", reader.skip(), 2);
    }

    private static void large() {
        notSkipped(LARGE, 198, 128, 0, 0, 0);
        notSkipped(LARGE, 219, 255, 255, 255, 255);
        notSkipped(LARGE, 221, 128, 0, 0, 0, 1, 2);
        notSkipped(LARGE, 223, 128, 0, 0, 0, 193);
        notSkipped(LARGE, 201, 128, 0, 0, 0, 5);
        notSkipped(LARGE, 146, 221, 128, 0, 0, 0, 193);
        notSkipped(LARGE, 146, 1, 201, 255, 255, 255, 255, 1);
        notSkipped(LARGE, 146, 144, 223, 128, 0, 0, 0, 193);
        notSkipped(LARGE, 147, 198, 128, 0, 0, 0, 193, 162);
        MessageReader reader = Make.bytes(145, 1, 198, 128, 0, 0, 0);
        CHECK.due("skip() of what stands before it", reader.skip(), 2);
    }

    private static void deepValues() {
        for (int depth : new int[] {99, 100, 101, 102, 240}) {
            MessageReader reader = new MessageReader();
            for (int i = 0; i < depth; i++) {
                reader.feed(i % 2 == 0 ? 145 : 129);
            }
            CHECK.due("skip() of " + depth + " without what is in them", reader.skip(), MORE);
            int inside = 1 + depth / 2;
            for (int i = 0; i < inside; i++) {
                reader.feed(i);
            }
            CHECK.due("skip() of " + depth, reader.skip(), depth + inside);
            CHECK.due("valueLow() of the last in them", reader.valueLow(), inside - 1);
            CHECK.dueOpen("behind them", reader);
        }
        deepest();
    }

    private static void deepest() {
        CHECK.due("skip() of 4064 arrays and 193", manyArrays(193).skip(), INVALID);
        CHECK.due("skip() of 4064 arrays and half a number", manyArrays(204).skip(), MORE);
        MessageReader reader = manyArrays(7);
        CHECK.due("skip() of 4064 arrays and a number", reader.skip(), 4065);
        CHECK.due("kind() behind them", reader.kind(), 4);
        CHECK.due("level() behind them", reader.level(), 0);
    }

    private static MessageReader manyArrays(int last) {
        MessageReader reader = new MessageReader();
        for (int i = 0; i < 508; i++) {
            reader.put(0x9191919191919191L, 8);
        }
        return Make.feed(reader, last);
    }

    private static void with100Open() {
        int[][] containers = {{145, 1}, {129, 1, 2}, {146, 145, 1, 2}, {145, 145, 145, 145, 7}, {144}, {222, 0, 0}};
        for (int[] bytes : containers) {
            MessageReader reader = Make.nested(100, bytes);
            String what = "skip() of " + Arrays.toString(bytes);
            CHECK.due(what, reader.skip(), bytes.length);
            CHECK.dueOpen(what, reader);
        }
        MessageReader reader = Make.nested(99, 146, 145, 1, 145, 2);
        reader.next();
        CHECK.due("skip() of the last but one of the 100th", reader.skip(), 2);
        CHECK.due("level() behind it", reader.level(), 100);
        CHECK.due("remaining(0) behind it", reader.remaining(0), 1);
        CHECK.changesNothing("none", MORE, () -> Make.nested(100), MessageReader::skip);
        CHECK.changesNothing("half an array", MORE, () -> Make.nested(100, 146, 1), MessageReader::skip);
        CHECK.changesNothing("193", INVALID, () -> Make.nested(100, 145, 193), MessageReader::skip);
        CHECK.changesNothing("large", LARGE, () -> Make.nested(100, 221, 128, 0, 0, 0), MessageReader::skip);
    }

    private static void valueGivenLast() {
        MessageReader reader = Make.bytes(146, 1, 213, 251, 7, 9, 145, 144, 147, 1, 2, 195, 129, 161, 5, 128, 192);
        reader.skip();
        CHECK.dueGiven("an extension as the last in an array", reader, 12, 2, -5);
        CHECK.due("its payload(0)", reader.payload(0), 7);
        CHECK.due("its payload(1)", reader.payload(1), 9);
        CHECK.due("its payload(2)", reader.payload(2), MessageReader.NONE);
        reader.skip();
        CHECK.dueGiven("an empty array inside", reader, 10, 0, 0);
        reader.skip();
        CHECK.dueGiven("true as the last in an array", reader, 3, 0, 0);
        CHECK.due("its payload(0)", reader.payload(0), MessageReader.NONE);
        reader.skip();
        CHECK.dueGiven("an empty map as the last in a map", reader, 11, 0, 0);
        CHECK.due("its payload(0)", reader.payload(0), MessageReader.NONE);
        reader.skip();
        CHECK.dueGiven("nil alone", reader, 1, 0, 0);
        reader.skip();
        CHECK.dueGiven("behind a skip() of none", reader, 1, 0, 0);
    }

    private static void childOfOpenContainer() {
        MessageReader reader = Make.bytes(146, 129, 1, 146, 5, 6, 145, 7, 8);
        reader.next();
        reader.next();
        CHECK.due("skip() of a key", reader.skip(), 1);
        CHECK.dueOpen("behind a key", reader, 1, 1);
        CHECK.due("skip() of the map's last child", reader.skip(), 3);
        CHECK.dueOpen("behind the map", reader, 1);
        CHECK.due("skip() of the last child of all", reader.skip(), 2);
        CHECK.dueOpen("behind all", reader);
        CHECK.due("consumed() behind all", reader.consumed(), 8);
        CHECK.due("skip() behind all", reader.skip(), 1);
        reader = Make.nested(5, 145, 1);
        CHECK.due("skip() of the last child of five", reader.skip(), 2);
        CHECK.dueOpen("behind the last child of five", reader);
    }

    private static void largestCounts() {
        MessageReader reader = new MessageReader();
        for (int i = 0; i < 100; i++) {
            reader.feed(223);
            reader.put(0x7FFFFFFFL, 4);
        }
        CHECK.due("skip() of 100 largest maps", reader.skip(), MORE);
        reader.feed(193);
        CHECK.due("skip() of 100 largest maps with 193 inside", reader.skip(), INVALID);
        // With such counts the children due are 2^32 and a few, which 32 bits would take for the few.
        for (int count = 1; count <= 15; count++) {
            notSkipped(MORE, 144 + count, 221, 127, 255, 255, 255, 221, 127, 255, 255, 255, 1, 2, 3, 4, 5, 6, 7, 8);
            notSkipped(MORE, 144 + count, 223, 127, 255, 255, 255, 1, 2, 3, 4, 5, 6, 7, 8);
            notSkipped(MORE, 144 + count, 223, 64, 0, 0, 0, 223, 64, 0, 0, 0, 1, 2, 3, 4, 5, 6, 7, 8);
        }
    }
}
