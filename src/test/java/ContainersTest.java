/** Promises 12 to 14, and of promise 6 what depends on open containers: level, remaining, consumed, DEEP. */
public final class ContainersTest {
    private static final int MOST_OPEN = 100;
    private static final Check CHECK = new Check();

    public static void main(String[] args) {
        flatArray();
        mapInsideArray();
        emptyContainers();
        lastChildIsContainer();
        largeCounts();
        wrongIndex();
        deep();
        CHECK.finish();
    }

    /** The answers behind a call: what it answered, the bytes consumed, and what each open container still has. */
    private static void behind(String what, MessageReader reader, long answer, long due, int consumed, long... left) {
        CHECK.due(what, answer, due);
        CHECK.due(what + ": consumed()", reader.consumed(), consumed);
        CHECK.due(what + ": level()", reader.level(), left.length);
        for (int k = 0; k < left.length; k++) {
            CHECK.due(what + ": remaining(" + k + ")", reader.remaining(k), left[k]);
        }
        CHECK.due(what + ": remaining() of none", reader.remaining(left.length), MessageReader.NONE);
        CHECK.due(what + ": remaining(2^31 - 1)", reader.remaining(Integer.MAX_VALUE), MessageReader.NONE);
    }

    private static void flatArray() {
        MessageReader reader = Check.reader(147, 1, 162, 8, 8, 192, 5);
        behind("array of three", reader, reader.next(), 10, 1, 3);
        behind("first child", reader, reader.next(), 4, 2, 2);
        behind("second child", reader, reader.next(), 8, 5, 1);
        behind("last child", reader, reader.next(), 1, 6);
        behind("behind the array", reader, reader.next(), 4, 7);
        behind("behind all", reader, reader.next(), MessageReader.MORE, 7);
    }

    private static void mapInsideArray() {
        MessageReader reader = Check.reader(146, 130, 1, 2, 3, 145, 4, 5);
        behind("array of two", reader, reader.next(), 10, 1, 2);
        behind("map of two", reader, reader.next(), 11, 2, 4, 1);
        behind("first key", reader, reader.next(), 4, 3, 3, 1);
        behind("first value", reader, reader.next(), 4, 4, 2, 1);
        behind("second key", reader, reader.next(), 4, 5, 1, 1);
        behind("second value, an array", reader, reader.next(), 10, 6, 1, 0, 1);
        behind("its child ends the map too", reader, reader.next(), 4, 7, 1);
        behind("last child of the outer one", reader, reader.next(), 4, 8);
    }

    private static void emptyContainers() {
        MessageReader reader = Check.reader(144, 128, 146, 144, 220, 0, 0);
        behind("empty array", reader, reader.next(), 10, 1);
        behind("empty map", reader, reader.next(), 11, 2);
        behind("array of two", reader, reader.next(), 10, 3, 2);
        behind("empty array inside", reader, reader.next(), 10, 4, 1);
        behind("empty array as last child", reader, reader.next(), 10, 7);
    }

    private static void lastChildIsContainer() {
        MessageReader reader = Check.reader(145, 145, 145, 146, 1, 2);
        for (int i = 0; i < 4; i++) {
            reader.next();
        }
        behind("inside four", reader, reader.next(), 4, 5, 1, 0, 0, 0);
        behind("the last one ends all four", reader, reader.next(), 4, 6);
    }

    private static void largeCounts() {
        MessageReader reader = Check.reader(223, 127, 255, 255, 255, 221, 127, 255, 255, 255, 1);
        behind("largest map", reader, reader.next(), 11, 5, 4294967294L);
        behind("largest array in it", reader, reader.next(), 10, 10, 2147483647L, 4294967293L);
        behind("a child", reader, reader.next(), 4, 11, 2147483646L, 4294967293L);
    }

    private static void wrongIndex() {
        CHECK.illegalArgument("remaining(-1)", MessageReader::new, r -> r.remaining(-1));
        CHECK.illegalArgument("remaining(-1) of one", ContainersTest::oneOpen, r -> r.remaining(-1));
        CHECK.illegalArgument("remaining(-2^31)", ContainersTest::oneOpen, r -> r.remaining(Integer.MIN_VALUE));
    }

    private static MessageReader oneOpen() {
        MessageReader reader = Check.reader(146);
        reader.next();
        return reader;
    }

    /** So many arrays of one open one inside the other, and these bytes behind them. */
    private static MessageReader nested(int open, int... bytes) {
        MessageReader reader = new MessageReader();
        for (int i = 0; i < open; i++) {
            reader.feed(145);
            reader.next();
        }
        for (int b : bytes) {
            reader.feed(b);
        }
        return reader;
    }

    private static void deep() {
        CHECK.due("next() of the 100th array", nested(MOST_OPEN - 1, 145).next(), 10);
        CHECK.due("level() with 100 open", nested(MOST_OPEN).level(), MOST_OPEN);
        CHECK.due("remaining(99) with 100 open", nested(MOST_OPEN).remaining(99), 0);
        CHECK.due("remaining(100) with 100 open", nested(MOST_OPEN).remaining(100), MessageReader.NONE);
        int[][] containers = {{145}, {145, 1}, {129, 1, 2}, {220, 0, 1}, {221, 0, 0, 0, 1}, {222, 0, 1}, {223, 0, 0, 0, 1}};
        for (int[] bytes : containers) {
            String what = "next() of " + bytes[0] + " with 100 open";
            CHECK.due(what, nested(MOST_OPEN, bytes).next(), MessageReader.DEEP);
            CHECK.changesNothing(what, () -> nested(MOST_OPEN, bytes), MessageReader::next);
        }
        CHECK.due("next() of an empty array with 100 open", nested(MOST_OPEN, 144).next(), 10);
        CHECK.due("next() of an empty map with 100 open", nested(MOST_OPEN, 222, 0, 0).next(), 11);
        CHECK.due("next() of a number with 100 open", nested(MOST_OPEN, 7).next(), 4);
        CHECK.due("next() of half a head with 100 open", nested(MOST_OPEN, 220, 0).next(), MessageReader.MORE);
        CHECK.due("next() of 193 with 100 open", nested(MOST_OPEN, 193).next(), MessageReader.INVALID);
        CHECK.due("next() of a large one with 100 open", nested(MOST_OPEN, 221, 128, 0, 0, 0).next(), MessageReader.LARGE);
        MessageReader reader = nested(MOST_OPEN, 145, 146, 1, 2, 145);
        behindSkipWithAllOpen(reader);
    }

    private static void behindSkipWithAllOpen(MessageReader reader) {
        CHECK.due("skip() of arrays with 100 open", reader.skip(), 4);
        CHECK.due("level() behind it", reader.level(), 0);
        CHECK.due("next() behind it", reader.next(), 10);
        CHECK.due("level() then", reader.level(), 1);
    }
}
