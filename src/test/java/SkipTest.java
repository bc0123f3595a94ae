import java.util.Arrays;

/** Promises 7 and 15: skip, whole. */
public final class SkipTest {
    private static final Check CHECK = new Check();

    public static void main(String[] args) {
        wholeValues();
        valueGivenLast();
        childOfOpenContainer();
        notThere();
        deepNesting();
        hugeCounts();
        countOfWholeValues();
        fullOfValues();
        CHECK.finish();
    }

    /** The bytes are one whole value, skipped as such, with one byte more behind it. */
    private static void wholeValue(int... bytes) {
        String what = "skip() of " + Arrays.toString(bytes);
        MessageReader reader = Check.reader(bytes);
        CHECK.due(what + ": whole() before", reader.whole(), 1);
        reader.feed(192);
        CHECK.due(what, reader.skip(), bytes.length);
        CHECK.due(what + ": consumed()", reader.consumed(), bytes.length);
        CHECK.due(what + ": level()", reader.level(), 0);
        CHECK.due(what + ": next() behind it", reader.next(), 1);
        for (int there = 0; there < bytes.length; there++) {
            notSkipped(MessageReader.MORE, Arrays.copyOf(bytes, there));
        }
    }

    private static void wholeValues() {
        wholeValue(7);
        wholeValue(163, 1, 2, 3);
        wholeValue(199, 2, 5, 193, 193);
        wholeValue(144);
        wholeValue(128);
        wholeValue(147, 1, 162, 8, 8, 192);
        wholeValue(130, 1, 145, 2, 3, 129, 4, 144);
        wholeValue(145, 145, 145, 146, 1, 2);
        wholeValue(220, 0, 2, 222, 0, 1, 203, 1, 2, 3, 4, 5, 6, 7, 8, 216, 1, 0, 1, 2, 3, 4, 5, 6, 7, 8, 9, 0, 1, 2, 3,
            4, 5, 221, 0, 0, 0, 1, 223, 0, 0, 0, 0);
    }

    private static void valueGivenLast() {
        MessageReader reader = Check.reader(146, 1, 213, 251, 7, 9, 145, 144, 147, 1, 2, 195, 192);
        reader.skip();
        CHECK.due("kind() of the last child", reader.kind(), 12);
        CHECK.due("valueLow() of the last child", reader.valueLow(), 2);
        CHECK.due("valueHigh() of the last child", reader.valueHigh(), -5);
        CHECK.due("payload(1) of the last child", reader.payload(1), 9);
        reader.skip();
        CHECK.due("kind() of an empty array inside", reader.kind(), 10);
        CHECK.due("valueLow() of an empty array inside", reader.valueLow(), 0);
        reader.skip();
        CHECK.due("kind() of true", reader.kind(), 3);
        CHECK.due("payload(0) of true", reader.payload(0), MessageReader.NONE);
    }

    private static void childOfOpenContainer() {
        MessageReader reader = Check.reader(146, 129, 1, 146, 5, 6, 145, 7, 8);
        reader.next();
        reader.next();
        CHECK.due("skip() of a key", reader.skip(), 1);
        CHECK.due("remaining(0) behind a key", reader.remaining(0), 1);
        CHECK.due("remaining(1) behind a key", reader.remaining(1), 1);
        CHECK.due("skip() of the map's last child", reader.skip(), 3);
        CHECK.due("level() behind the map", reader.level(), 1);
        CHECK.due("remaining(0) behind the map", reader.remaining(0), 1);
        CHECK.due("skip() of the last child of all", reader.skip(), 2);
        CHECK.due("level() behind all", reader.level(), 0);
        CHECK.due("consumed() behind all", reader.consumed(), 8);
        CHECK.due("skip() behind all", reader.skip(), 1);
    }

    private static void notSkipped(int due, int... bytes) {
        String what = "skip() of " + Arrays.toString(bytes);
        CHECK.due(what, Check.behindText(bytes).skip(), due);
        CHECK.due(what + ": whole()", Check.behindText(bytes).whole(), 0);
        CHECK.changesNothing(what, () -> Check.behindText(bytes), MessageReader::skip);
        CHECK.changesNothing(what + ", whole()", () -> Check.behindText(bytes), MessageReader::whole);
    }

    /** The first head that can't be given tells, and what stands behind it does not. */
    private static void notThere() {
        notSkipped(MessageReader.INVALID, 193);
        notSkipped(MessageReader.INVALID, 147, 1, 193, 2);
        notSkipped(MessageReader.INVALID, 147, 1, 193);
        notSkipped(MessageReader.INVALID, 145, 129, 1, 193, 198, 255, 255, 255, 255);
        notSkipped(MessageReader.LARGE, 198, 128, 0, 0, 0);
        notSkipped(MessageReader.LARGE, 146, 221, 128, 0, 0, 0, 193);
        notSkipped(MessageReader.LARGE, 146, 1, 201, 255, 255, 255, 255, 1);
        notSkipped(MessageReader.MORE, 146, 1, 201, 255, 255, 255, 255);
        notSkipped(MessageReader.MORE, 146, 163, 193, 193);
        notSkipped(MessageReader.MORE, 146, 198, 127, 255, 255, 255, 193);
        notSkipped(MessageReader.MORE, 146, 205, 193);
    }

    /** How deep a value goes counts for nothing. */
    private static void deepNesting() {
        MessageReader reader = new MessageReader();
        for (int i = 0; i < 30; i++) {
            reader.put(0x9191919191919191L, 8);
        }
        CHECK.due("skip() of 240 arrays without the innermost child", reader.skip(), MessageReader.MORE);
        CHECK.due("whole() of 240 arrays without the innermost child", reader.whole(), 0);
        reader.put(0x0708, 2);
        CHECK.due("whole() of 240 arrays and a number", reader.whole(), 2);
        CHECK.due("skip() of 240 arrays", reader.skip(), 241);
        CHECK.due("valueLow() of the innermost child", reader.valueLow(), 7);
        CHECK.due("level() behind them", reader.level(), 0);
    }

    private static void hugeCounts() {
        MessageReader reader = new MessageReader();
        for (int i = 0; i < 100; i++) {
            reader.feed(223);
            reader.put(0x7FFFFFFFL, 4);
        }
        CHECK.due("skip() of 100 largest maps", reader.skip(), MessageReader.MORE);
        CHECK.due("whole() of 100 largest maps", reader.whole(), 0);
        reader.feed(193);
        CHECK.due("skip() of 100 largest maps with 193 inside", reader.skip(), MessageReader.INVALID);
    }

    private static void countOfWholeValues() {
        CHECK.due("whole() of none", new MessageReader().whole(), 0);
        CHECK.due("whole() of four", Check.reader(1, 161, 193, 146, 1, 145, 2, 192).whole(), 4);
        CHECK.due("whole() up to half a text", Check.reader(1, 2, 162, 3).whole(), 2);
        CHECK.due("whole() up to half an array", Check.reader(1, 2, 147, 3, 4).whole(), 2);
        CHECK.due("whole() up to INVALID", Check.reader(1, 2, 193, 3, 4).whole(), 2);
        CHECK.due("whole() up to INVALID inside", Check.reader(1, 2, 146, 3, 193, 4).whole(), 2);
        CHECK.due("whole() up to LARGE", Check.reader(1, 2, 221, 128, 0, 0, 0, 4).whole(), 2);
        MessageReader reader = Check.reader(146, 1, 145, 2, 3, 4);
        CHECK.due("whole() of an array and two numbers", reader.whole(), 3);
        reader.next();
        CHECK.due("whole() of its children and what is behind it", reader.whole(), 4);
        CHECK.due("whole() consumes nothing", reader.consumed(), 1);
        reader.next();
        CHECK.due("whole() behind a child", reader.whole(), 3);
    }

    private static void fullOfValues() {
        MessageReader reader = new MessageReader();
        for (int i = 0; i < 500; i++) {
            reader.put(0, 8);
        }
        CHECK.due("whole() of 4000 numbers", reader.whole(), 4000);
        reader = Check.filled(4096);
        CHECK.due("whole() of 455 floats and a number", reader.whole(), 456);
        reader.cut(4096);
        CHECK.due("pack() of a text of 4093 bytes", reader.pack(8, 4093, 0), 3);
        CHECK.due("skip() of half of it", reader.skip(), MessageReader.MORE);
    }
}
