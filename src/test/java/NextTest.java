import java.util.Arrays;

/** Promise 6: next, and the table of values. */
public final class NextTest {
    private static final int MORE = MessageReader.MORE;
    private static final int LARGE = MessageReader.LARGE;
    private static final int DEEP = MessageReader.DEEP;
    private static final Check CHECK = new Check("promise 6");

    public static void main(String[] args) {
        theTable();
        whatIsThere();
        whatIsNot();
        CHECK.finish();
    }

    private static void theTable() {
        CHECK.sentence("0 .. 127: that number", NextTest::numbersInside);
        CHECK.sentence("128 .. 143: a map of so many (less 128)", () -> countsInside(11, 128));
        CHECK.sentence("144 .. 159: an array of so many (less 144)", () -> countsInside(10, 144));
        CHECK.sentence("160 .. 191: a text of so many bytes (less 160)", NextTest::textsInside);
        CHECK.sentence("192: nil. 194 false, 195 true", NextTest::withoutNumber);
        CHECK.sentence("196, 197, 198: bytes, their length in 1, 2, 4 bytes", () -> lengths(9, 196, 0));
        CHECK.sentence("199, 200, 201: an extension, its length in 1, 2, 4 bytes, then its type",
            () -> lengths(12, 199, 1));
        CHECK.sentence("202, 203: a float of 4, 8 bytes", NextTest::floats);
        CHECK.sentence("204 .. 207: a number without sign of 1, 2, 4, 8 bytes", NextTest::withoutSign);
        CHECK.sentence("208 .. 211: one with sign", NextTest::withSign);
        CHECK.sentence("212 .. 216: an extension of 1, 2, 4, 8, 16 bytes, its type first", NextTest::shortExtensions);
        CHECK.sentence("217, 218, 219: a text, its length in 1, 2, 4 bytes", () -> lengths(8, 217, 0));
        CHECK.sentence("220, 221: an array, its count in 2, 4 bytes", () -> counts(10, 220));
        CHECK.sentence("222, 223: a map, likewise", () -> counts(11, 222));
        CHECK.sentence("224 .. 255: that number less 256", NextTest::negativeInside);
        CHECK.sentence("numbers behind it have their highest byte first", NextTest::highestFirst);
    }

    private static void whatIsThere() {
        CHECK.sentence("gives the value whose head begins at the first byte that is not consumed", NextTest::inOrder);
        CHECK.sentence("if its head is there, and a payload wholly", NextTest::byteByByte);
        CHECK.sentence("both are consumed then", NextTest::consumedThen);
        CHECK.sentence("4096 at most", NextTest::longestPayload);
    }

    private static void whatIsNot() {
        CHECK.sentence("MORE: what there is ends before", NextTest::endsBefore);
        CHECK.sentence("193: nothing, INVALID", NextTest::invalid);
        CHECK.sentence("INVALID: the first byte is 193", NextTest::notFirst);
        CHECK.sentence("LARGE: its length or count is above 2^31 - 1", NextTest::large);
        CHECK.sentence("(as soon as its head is there)", NextTest::asSoonAsItsHeadIsThere);
        CHECK.sentence("its length or count", NextTest::numbersAreNeverLarge);
        CHECK.sentence("DEEP: .. and 100 containers are OPEN", NextTest::deep);
        CHECK.sentence("it is an array or map that has children", NextTest::withoutChildren);
        CHECK.sentence("MORE, INVALID, LARGE, DEEP", NextTest::otherwiseWith100Open);
    }

    /** One value from its bytes, with more behind it: its kind, both halves, and how many bytes it takes. */
    private static void value(int kind, int low, int high, int... bytes) {
        MessageReader reader = Make.bytes(bytes);
        reader.put(0xC1C1C1C1C1C1C1C1L, 8);
        String what = "value " + Arrays.toString(bytes);
        CHECK.due(what + ": next()", reader.next(), kind);
        CHECK.dueGiven(what, reader, kind, low, high);
        CHECK.due(what + ": consumed()", reader.consumed(), bytes.length);
    }

    private static int[] join(int[] head, int payload) {
        int[] bytes = Arrays.copyOf(head, head.length + payload);
        Arrays.fill(bytes, head.length, bytes.length, 9);
        return bytes;
    }

    private static int[] head(int first, long number, int width, int... type) {
        int[] head = new int[1 + width + type.length];
        head[0] = first;
        for (int i = 0; i < width; i++) {
            head[1 + i] = (int) (number >>> (8 * (width - 1 - i))) & 255;
        }
        System.arraycopy(type, 0, head, 1 + width, type.length);
        return head;
    }

    private static void notGiven(int due, int... bytes) {
        CHECK.changesNothing("next() of " + Arrays.toString(bytes), due,
            () -> Make.behindText(bytes), MessageReader::next);
    }

    // ---- the table of values

    private static void numbersInside() {
        for (int first = 0; first <= 127; first++) {
            value(4, first, 0, first);
        }
    }

    private static void countsInside(int kind, int least) {
        for (int count = 0; count <= 15; count++) {
            value(kind, count, 0, least + count);
            MessageReader reader = Make.bytes(least + count);
            reader.next();
            long children = kind == 11 ? 2 * count : count;
            CHECK.due("remaining(0) of " + (least + count), reader.remaining(0), count == 0 ? -1 : children);
        }
    }

    private static void textsInside() {
        for (int length = 0; length <= 31; length++) {
            value(8, length, 0, join(head(160 + length, 0, 0), length));
            if (length > 0) {
                notGiven(MORE, join(head(160 + length, 0, 0), length - 1));
            }
        }
    }

    private static void withoutNumber() {
        value(1, 0, 0, 192);
        value(2, 0, 0, 194);
        value(3, 0, 0, 195);
    }

    /** Three first bytes, with lengths of 1, 2, 4 bytes: the least ones, and the edges of each width. */
    private static void lengths(int kind, int first, int typeWidth) {
        int[] type = typeWidth == 0 ? new int[0] : new int[] {5};
        int high = typeWidth == 0 ? 0 : 5;
        for (int step = 0; step < 3; step++) {
            int width = 1 << step;
            for (int length : new int[] {0, 1, 2, 127, 128, 254, 255}) {
                value(kind, length, high, join(head(first + step, length, width, type), length));
            }
            notGiven(MORE, join(head(first + step, 255, width, type), 254));
        }
        for (int length : new int[] {256, 257, 384}) {
            value(kind, length, high, join(head(first + 1, length, 2, type), length));
            value(kind, length, high, join(head(first + 2, length, 4, type), length));
        }
        notGiven(MORE, join(head(first + 1, 65535, 2, type), 255));
        notGiven(MORE, join(head(first + 2, 65536, 4, type), 255));
        notGiven(MORE, join(head(first + 2, Integer.MAX_VALUE, 4, type), 255));
    }

    private static void floats() {
        value(6, 0, 0, 202, 0, 0, 0, 0);
        value(6, 0x3F800000, 0, 202, 0x3F, 0x80, 0, 0);
        value(6, 0x80000001, 0, 202, 0x80, 0, 0, 1);
        value(6, -1, 0, 202, 255, 255, 255, 255);
        value(7, 0, 0, 203, 0, 0, 0, 0, 0, 0, 0, 0);
        value(7, 0x84050607, 0x3FF00203, 203, 0x3F, 0xF0, 2, 3, 0x84, 5, 6, 7);
        value(7, 1, 0x80000000, 203, 0x80, 0, 0, 0, 0, 0, 0, 1);
        value(7, -1, -1, 203, 255, 255, 255, 255, 255, 255, 255, 255);
    }

    private static void withoutSign() {
        value(4, 0, 0, 204, 0);
        value(4, 127, 0, 204, 127);
        value(4, 128, 0, 204, 128);
        value(4, 255, 0, 204, 255);
        value(4, 0, 0, 205, 0, 0);
        value(4, 0x8000, 0, 205, 128, 0);
        value(4, 65535, 0, 205, 255, 255);
        value(4, 0, 0, 206, 0, 0, 0, 0);
        value(4, Make.LEAST_INT, 0, 206, 128, 0, 0, 0);
        value(4, -1, 0, 206, 255, 255, 255, 255);
        value(4, 0, 0, 207, 0, 0, 0, 0, 0, 0, 0, 0);
        value(4, Make.LEAST_INT, 0, 207, 0, 0, 0, 0, 128, 0, 0, 0);
        value(4, 0, Make.LEAST_INT, 207, 128, 0, 0, 0, 0, 0, 0, 0);
        value(4, -1, -1, 207, 255, 255, 255, 255, 255, 255, 255, 255);
    }

    private static void withSign() {
        value(5, 0, 0, 208, 0);
        value(5, 127, 0, 208, 127);
        value(5, -128, -1, 208, 128);
        value(5, -1, -1, 208, 255);
        value(5, 0, 0, 209, 0, 0);
        value(5, 255, 0, 209, 0, 255);
        value(5, 32767, 0, 209, 127, 255);
        value(5, -32768, -1, 209, 128, 0);
        value(5, -1, -1, 209, 255, 255);
        value(5, 65535, 0, 210, 0, 0, 255, 255);
        value(5, Make.GREATEST_INT, 0, 210, 127, 255, 255, 255);
        value(5, Make.LEAST_INT, -1, 210, 128, 0, 0, 0);
        value(5, -1, -1, 210, 255, 255, 255, 255);
        value(5, -1, 0, 211, 0, 0, 0, 0, 255, 255, 255, 255);
        value(5, -1, Make.GREATEST_INT, 211, 127, 255, 255, 255, 255, 255, 255, 255);
        value(5, 0, Make.LEAST_INT, 211, 128, 0, 0, 0, 0, 0, 0, 0);
        value(5, -1, -1, 211, 255, 255, 255, 255, 255, 255, 255, 255);
    }

    private static void shortExtensions() {
        for (int step = 0; step < 5; step++) {
            int length = 1 << step;
            value(12, length, 0, join(head(212 + step, 0, 0, 0), length));
            value(12, length, 127, join(head(212 + step, 0, 0, 127), length));
            value(12, length, -128, join(head(212 + step, 0, 0, 128), length));
            value(12, length, -1, join(head(212 + step, 0, 0, 255), length));
            notGiven(MORE, join(head(212 + step, 0, 0, 7), length - 1));
            notGiven(MORE, 212 + step);
        }
    }

    private static void counts(int kind, int first) {
        for (int count : new int[] {0, 1, 15, 16, 255, 256, 32767, 32768, 65535}) {
            value(kind, count, 0, head(first, count, 2));
            value(kind, count, 0, head(first + 1, count, 4));
        }
        for (int count : new int[] {65536, 1 << 30, Integer.MAX_VALUE}) {
            value(kind, count, 0, head(first + 1, count, 4));
        }
    }

    private static void negativeInside() {
        for (int first = 224; first <= 255; first++) {
            value(5, first - 256, -1, first);
        }
    }

    private static void highestFirst() {
        value(4, 0x0102, 0, 205, 1, 2);
        value(4, 0x01020304, 0, 206, 1, 2, 3, 4);
        value(4, 0x05060708, 0x01020304, 207, 1, 2, 3, 4, 5, 6, 7, 8);
        value(5, 0x0102, 0, 209, 1, 2);
        value(5, 0x01020304, 0, 210, 1, 2, 3, 4);
        value(5, 0x05060708, 0x01020304, 211, 1, 2, 3, 4, 5, 6, 7, 8);
        value(6, 0x01020304, 0, 202, 1, 2, 3, 4);
        value(7, 0x05060708, 0x01020304, 203, 1, 2, 3, 4, 5, 6, 7, 8);
        value(10, 0x0102, 0, 220, 1, 2);
        value(11, 0x01020304, 0, 223, 1, 2, 3, 4);
    }

    // ---- what there is

    private static void inOrder() {
        MessageReader reader = Make.bytes(192, 161, 195, 204, 194, 195);
        int[] kinds = {1, 8, 4, 3};
        for (int kind : kinds) {
            CHECK.due("next()", reader.next(), kind);
        }
        CHECK.due("next() behind all", reader.next(), MORE);
    }

    /** Each kind of head, byte by byte: not given before its last byte has come, and then at once. */
    private static void byteByByte() {
        int[][] values = {
            {7}, {255}, {192}, {144}, {128}, {146}, {130}, {160}, {162, 1, 2},
            {196, 2, 9, 9}, {197, 0, 2, 9, 9}, {198, 0, 0, 0, 2, 9, 9}, {196, 0}, {197, 0, 0}, {198, 0, 0, 0, 0},
            {199, 2, 5, 9, 9}, {200, 0, 2, 5, 9, 9}, {201, 0, 0, 0, 2, 5, 9, 9},
            {199, 0, 5}, {200, 0, 0, 5}, {201, 0, 0, 0, 0, 5},
            {202, 1, 2, 3, 4}, {203, 1, 2, 3, 4, 5, 6, 7, 8},
            {204, 1}, {205, 1, 2}, {206, 1, 2, 3, 4}, {207, 1, 2, 3, 4, 5, 6, 7, 8},
            {208, 1}, {209, 1, 2}, {210, 1, 2, 3, 4}, {211, 1, 2, 3, 4, 5, 6, 7, 8},
            {212, 5, 9}, {213, 5, 9, 9}, {214, 5, 9, 9, 9, 9}, {215, 5, 1, 2, 3, 4, 5, 6, 7, 8},
            {216, 5, 1, 2, 3, 4, 5, 6, 7, 8, 9, 10, 11, 12, 13, 14, 15, 16},
            {217, 2, 9, 9}, {218, 0, 2, 9, 9}, {219, 0, 0, 0, 2, 9, 9}, {217, 0}, {218, 0, 0}, {219, 0, 0, 0, 0},
            {220, 0, 0}, {220, 0, 1}, {221, 0, 0, 0, 0}, {221, 0, 0, 0, 1},
            {222, 0, 0}, {222, 0, 1}, {223, 0, 0, 0, 0}, {223, 0, 0, 0, 1},
        };
        for (int[] value : values) {
            MessageReader reader = new MessageReader();
            String what = "next() of the first bytes of " + Arrays.toString(value);
            for (int b : value) {
                CHECK.due(what, reader.next(), MORE);
                reader.feed(b);
            }
            CHECK.due("is " + Arrays.toString(value) + " given?", reader.next() > 0 ? 1 : 0, 1);
            CHECK.due("consumed() behind it", reader.consumed(), value.length);
        }
    }

    private static void consumedThen() {
        MessageReader reader = Make.bytes(7, 163, 1, 2, 3, 199, 1, 5, 9, 146, 192, 203, 1, 2, 3, 4, 5, 6, 7, 8);
        int[] ends = {1, 5, 9, 10, 11, 20};
        for (int end : ends) {
            reader.next();
            CHECK.due("consumed()", reader.consumed(), end);
        }
    }

    private static void longestPayload() {
        MessageReader reader = Make.longestText();
        CHECK.due("next()", reader.next(), 8);
        CHECK.due("valueLow()", reader.valueLow(), 4093);
        CHECK.due("consumed()", reader.consumed(), 4096);
        CHECK.due("payload(4092)", reader.payload(4092), 255);
        CHECK.due("payload(4093)", reader.payload(4093), MessageReader.NONE);
        CHECK.due("next() behind it", reader.next(), MORE);
        MessageReader shorter = Make.longestText();
        shorter.cut(1);
        CHECK.due("next() of one byte less", shorter.next(), MORE);
        MessageReader longer = new MessageReader();
        longer.pack(8, 4094, 0);
        CHECK.due("next() of one that never fits", Make.fill(longer, 4096).next(), MORE);
    }

    // ---- what there is not

    private static void endsBefore() {
        notGiven(MORE);
        for (int first : new int[] {161, 191, 196, 199, 202, 203, 204, 207, 208, 211, 212, 216, 217, 220, 222, 223}) {
            notGiven(MORE, first);
        }
        notGiven(MORE, 161);
        notGiven(MORE, 196, 1);
        notGiven(MORE, 199, 1, 5);
        notGiven(MORE, 203, 1, 2, 3, 4, 5, 6, 7);
        notGiven(MORE, 219, 0, 0, 0);
        notGiven(MORE, 221, 0, 0, 0);
    }

    private static void invalid() {
        notGiven(MessageReader.INVALID, 193);
        notGiven(MessageReader.INVALID, 193, 1, 2, 3);
        notGiven(MessageReader.INVALID, 193, 193);
        CHECK.changesNothing("next() of 193 before the first value", MessageReader.INVALID,
            () -> Make.bytes(193, 1), MessageReader::next);
    }

    private static void notFirst() {
        value(8, 1, 0, 161, 193);
        value(9, 193, 0, join(head(196, 193, 1), 193));
        value(12, 1, -63, 212, 193, 193);
        value(4, 193, 0, 204, 193);
        value(5, -63, -1, 208, 193);
        notGiven(MORE, 205, 193);
        notGiven(MORE, 162, 193);
        MessageReader reader = Make.bytes(192, 193);
        CHECK.due("next() of what stands before 193", reader.next(), 1);
        CHECK.due("next() of 193", reader.next(), MessageReader.INVALID);
    }

    private static void large() {
        for (int first : new int[] {198, 219, 221, 223}) {
            for (long number : new long[] {0x80000000L, 0x80000001L, 0xFFFFFFFEL, 0xFFFFFFFFL}) {
                notGiven(LARGE, head(first, number, 4));
            }
        }
        for (long number : new long[] {0x80000000L, 0x80000001L, 0xFFFFFFFEL, 0xFFFFFFFFL}) {
            notGiven(LARGE, head(201, number, 4, 5));
        }
        notGiven(MORE, head(198, 0x7FFFFFFF, 4));
        notGiven(MORE, head(219, 0x7FFFFFFF, 4));
        notGiven(MORE, head(201, 0x7FFFFFFF, 4, 5));
        value(10, Integer.MAX_VALUE, 0, head(221, 0x7FFFFFFF, 4));
        value(11, Integer.MAX_VALUE, 0, head(223, 0x7FFFFFFF, 4));
    }

    private static void asSoonAsItsHeadIsThere() {
        for (int first : new int[] {198, 219, 221, 223}) {
            notGiven(MORE, first, 128, 0, 0);
            notGiven(LARGE, first, 128, 0, 0, 0);
            notGiven(LARGE, first, 128, 0, 0, 0, 1, 2);
        }
        notGiven(MORE, 201, 128, 0, 0);
        notGiven(MORE, 201, 128, 0, 0, 0);
        notGiven(LARGE, 201, 128, 0, 0, 0, 5);
        notGiven(LARGE, 201, 128, 0, 0, 0, 5, 1, 2);
    }

    private static void numbersAreNeverLarge() {
        value(4, Make.LEAST_INT, 0, 206, 128, 0, 0, 0);
        value(4, 0, Make.LEAST_INT, 207, 128, 0, 0, 0, 0, 0, 0, 0);
        value(5, 0, 1, 211, 0, 0, 0, 1, 0, 0, 0, 0);
        value(6, -1, 0, 202, 255, 255, 255, 255);
        value(7, -1, -1, 203, 255, 255, 255, 255, 255, 255, 255, 255);
    }

    private static void deep() {
        int[][] containers = {{145}, {159}, {129}, {143}, {145, 1}, {129, 1, 2}, {220, 0, 1}, {220, 1, 0},
            {221, 0, 0, 0, 1}, {221, 127, 255, 255, 255}, {222, 0, 1}, {223, 0, 0, 0, 1}, {223, 127, 255, 255, 255}};
        for (int[] bytes : containers) {
            String what = "next() of " + Arrays.toString(bytes);
            int kind = bytes[0] < 144 || bytes[0] > 221 ? 11 : 10;
            CHECK.due(what + " with 98 open", Make.nested(98, bytes).next(), kind);
            MessageReader reader = Make.nested(99, bytes);
            CHECK.due(what + " with 99 open", reader.next(), kind);
            CHECK.due("level() then", reader.level(), 100);
            CHECK.changesNothing(what + " with 100 open", DEEP, () -> Make.nested(100, bytes), MessageReader::next);
        }
        MessageReader reader = Make.nested(99, 146, 7, 145, 8);
        reader.next();
        reader.next();
        CHECK.due("next() of an array as the last child of the 100th", reader.next(), DEEP);
        CHECK.due("skip() of it", reader.skip(), 2);
        reader.feed(145);
        CHECK.due("next() of an array when all are closed", reader.next(), 10);
    }

    private static void withoutChildren() {
        int[][] containers = {{144}, {128}, {220, 0, 0}, {221, 0, 0, 0, 0}, {222, 0, 0}, {223, 0, 0, 0, 0}};
        for (int[] bytes : containers) {
            int kind = bytes[0] == 128 || bytes[0] > 221 ? 11 : 10;
            String what = "next() of " + Arrays.toString(bytes);
            MessageReader reader = Make.nested(99, 146);
            reader.next();
            Make.feed(reader, bytes);
            CHECK.due(what + " with 100 open", reader.next(), kind);
            CHECK.due(what + ": level()", reader.level(), 100);
            CHECK.due(what + ": remaining(0)", reader.remaining(0), 1);
            Make.feed(reader, bytes);
            CHECK.due(what + " as the last child of all", reader.next(), kind);
            CHECK.dueOpen(what + " as the last child of all", reader);
            MessageReader alone = Make.bytes(bytes);
            CHECK.due(what, alone.next(), kind);
            CHECK.dueOpen(what, alone);
        }
    }

    private static void otherwiseWith100Open() {
        CHECK.changesNothing("none", MORE, () -> Make.nested(100), MessageReader::next);
        CHECK.changesNothing("half a head", MORE, () -> Make.nested(100, 220, 1), MessageReader::next);
        CHECK.changesNothing("half a text", MORE, () -> Make.nested(100, 162, 1), MessageReader::next);
        CHECK.changesNothing("193", MessageReader.INVALID, () -> Make.nested(100, 193), MessageReader::next);
        CHECK.changesNothing("large", LARGE, () -> Make.nested(100, 221, 128, 0, 0, 0), MessageReader::next);
        CHECK.changesNothing("large", LARGE, () -> Make.nested(100, 223, 255, 255, 255, 255), MessageReader::next);
        MessageReader reader = Make.nested(100, 161, 7);
        CHECK.due("next() of a text", reader.next(), 8);
        CHECK.due("level() behind the last child of all", reader.level(), 0);
    }
}
