import java.util.Arrays;

/** Promises 6 and 8 to 11: next, kind, valueLow, valueHigh, payload. */
public final class NextTest {
    private static final Check CHECK = new Check();

    public static void main(String[] args) {
        everyFirstByte();
        numbers();
        floats();
        lengths();
        extensions();
        more();
        invalid();
        large();
        whatIsGivenLast();
        payloads();
        CHECK.finish();
    }

    /** One value from its bytes: its kind, both halves, and how many bytes it takes. */
    private static void value(int kind, int low, int high, int taken, int... bytes) {
        MessageReader reader = Check.reader(bytes);
        String what = "value " + Arrays.toString(bytes);
        CHECK.due(what + " next()", reader.next(), kind);
        CHECK.due(what + " kind()", reader.kind(), kind);
        CHECK.due(what + " valueLow()", reader.valueLow(), low);
        CHECK.due(what + " valueHigh()", reader.valueHigh(), high);
        CHECK.due(what + " consumed()", reader.consumed(), taken);
    }

    private static void everyFirstByte() {
        for (int first = 0; first < 128; first++) {
            value(4, first, 0, 1, first);
        }
        for (int count = 0; count < 16; count++) {
            value(11, count, 0, 1, 128 + count);
            value(10, count, 0, 1, 144 + count);
        }
        for (int length = 0; length < 32; length++) {
            int[] bytes = new int[1 + length];
            bytes[0] = 160 + length;
            value(8, length, 0, 1 + length, bytes);
        }
        value(1, 0, 0, 1, 192);
        value(2, 0, 0, 1, 194);
        value(3, 0, 0, 1, 195);
        for (int first = 224; first < 256; first++) {
            value(5, first - 256, -1, 1, first);
        }
    }

    private static void numbers() {
        value(4, 0, 0, 2, 204, 0);
        value(4, 255, 0, 2, 204, 255);
        value(4, 0x80FF, 0, 3, 205, 0x80, 0xFF);
        value(4, 0x80010203, 0, 5, 206, 0x80, 1, 2, 3);
        value(4, 0x84050607, 0x80010203, 9, 207, 0x80, 1, 2, 3, 0x84, 5, 6, 7);
        value(5, 127, 0, 2, 208, 127);
        value(5, -128, -1, 2, 208, 128);
        value(5, 0x7FFF, 0, 3, 209, 0x7F, 0xFF);
        value(5, -0x8000, -1, 3, 209, 0x80, 0);
        value(5, Integer.MAX_VALUE, 0, 5, 210, 0x7F, 0xFF, 0xFF, 0xFF);
        value(5, Integer.MIN_VALUE, -1, 5, 210, 0x80, 0, 0, 0);
        value(5, 0x84050607, 0x80010203, 9, 211, 0x80, 1, 2, 3, 0x84, 5, 6, 7);
        value(5, -1, 0x7FFFFFFF, 9, 211, 0x7F, 255, 255, 255, 255, 255, 255, 255);
    }

    private static void floats() {
        value(6, 0x3F800000, 0, 5, 202, 0x3F, 0x80, 0, 0);
        value(6, 0xBF800001, 0, 5, 202, 0xBF, 0x80, 0, 1);
        value(7, 0x04050607, 0xBFF00203, 9, 203, 0xBF, 0xF0, 2, 3, 4, 5, 6, 7);
    }

    private static void lengths() {
        value(8, 2, 0, 4, 217, 2, 1, 1);
        value(8, 2, 0, 5, 218, 0, 2, 1, 1);
        value(8, 2, 0, 7, 219, 0, 0, 0, 2, 1, 1);
        value(8, 0, 0, 2, 217, 0);
        value(9, 0, 0, 2, 196, 0, 1);
        value(9, 1, 0, 3, 196, 1, 1);
        value(9, 1, 0, 4, 197, 0, 1, 1);
        value(9, 1, 0, 6, 198, 0, 0, 0, 1, 1);
        value(10, 0x0102, 0, 3, 220, 1, 2);
        value(10, Integer.MAX_VALUE, 0, 5, 221, 0x7F, 255, 255, 255);
        value(11, 0xFF02, 0, 3, 222, 255, 2);
        value(11, Integer.MAX_VALUE, 0, 5, 223, 0x7F, 255, 255, 255);
        value(10, 0, 0, 3, 220, 0, 0);
        value(11, 0, 0, 5, 223, 0, 0, 0, 0);
    }

    private static void extensions() {
        value(12, 2, -1, 5, 199, 2, 255, 8, 9);
        value(12, 1, 127, 5, 200, 0, 1, 127, 9);
        value(12, 1, -128, 7, 201, 0, 0, 0, 1, 128, 9);
        value(12, 0, 5, 3, 199, 0, 5);
        value(12, 1, 1, 3, 212, 1, 9);
        value(12, 2, -1, 4, 213, 255, 9, 9);
        value(12, 4, 2, 6, 214, 2, 9, 9, 9, 9);
        value(12, 8, -2, 10, 215, 254, 9, 9, 9, 9, 9, 9, 9, 9);
        value(12, 16, 3, 18, 216, 3, 9, 9, 9, 9, 9, 9, 9, 9, 9, 9, 9, 9, 9, 9, 9, 9);
    }

    /** Whatever is cut off a whole value, it is not given, and nothing changes. */
    private static void more() {
        int[][] values = {
            {161, 1}, {196, 1, 9}, {197, 0, 1, 9}, {198, 0, 0, 0, 1, 9},
            {199, 1, 5, 9}, {200, 0, 1, 5, 9}, {201, 0, 0, 0, 1, 5, 9}, {199, 0, 5},
            {202, 1, 2, 3, 4}, {203, 1, 2, 3, 4, 5, 6, 7, 8},
            {204, 1}, {205, 1, 2}, {206, 1, 2, 3, 4}, {207, 1, 2, 3, 4, 5, 6, 7, 8},
            {208, 1}, {209, 1, 2}, {210, 1, 2, 3, 4}, {211, 1, 2, 3, 4, 5, 6, 7, 8},
            {212, 5, 9}, {213, 5, 9, 9}, {214, 5, 9, 9, 9, 9},
            {217, 1, 9}, {218, 0, 1, 9}, {219, 0, 0, 0, 1, 9},
            {220, 0, 1}, {221, 0, 0, 0, 1}, {222, 0, 1}, {223, 0, 0, 0, 1}, {192},
        };
        for (int[] value : values) {
            for (int there = 0; there < value.length; there++) {
                notGiven(MessageReader.MORE, Arrays.copyOf(value, there));
            }
            CHECK.due("the whole value of " + value[0], Check.reader(value).next() > 0 ? 1 : 0, 1);
        }
        notGiven(MessageReader.MORE, 198, 127, 255, 255, 255, 1, 2, 3);
        notGiven(MessageReader.MORE, 201, 127, 255, 255, 255, 1, 2, 3);
        notGiven(MessageReader.MORE, 219, 127, 255, 255, 255, 1, 2, 3);
    }

    private static void notGiven(int due, int... bytes) {
        String what = "next() of " + Arrays.toString(bytes);
        CHECK.due(what, Check.behindText(bytes).next(), due);
        CHECK.changesNothing(what, () -> Check.behindText(bytes), MessageReader::next);
    }

    private static void invalid() {
        notGiven(MessageReader.INVALID, 193);
        notGiven(MessageReader.INVALID, 193, 1, 2, 3);
    }

    private static void large() {
        for (int first : new int[] {198, 219, 221, 223}) {
            notGiven(MessageReader.MORE, first, 128, 0, 0);
            notGiven(MessageReader.LARGE, first, 128, 0, 0, 0);
            notGiven(MessageReader.LARGE, first, 255, 255, 255, 255, 1);
        }
        notGiven(MessageReader.MORE, 201, 128, 0, 0, 0);
        notGiven(MessageReader.LARGE, 201, 128, 0, 0, 0, 5);
        notGiven(MessageReader.LARGE, 201, 255, 255, 255, 255, 5, 6);
    }

    private static void whatIsGivenLast() {
        MessageReader reader = Check.reader(255, 192);
        CHECK.due("kind() before the first", reader.kind(), MessageReader.NONE);
        CHECK.due("valueLow() before the first", reader.valueLow(), 0);
        CHECK.due("valueHigh() before the first", reader.valueHigh(), 0);
        reader.next();
        reader.next();
        CHECK.due("kind() of nil behind a number", reader.kind(), 1);
        CHECK.due("valueLow() of nil behind a number", reader.valueLow(), 0);
        CHECK.due("valueHigh() of nil behind a number", reader.valueHigh(), 0);
        reader.feed(193);
        reader.next();
        CHECK.due("kind() behind a next() that gave none", reader.kind(), 1);
    }

    private static void payloads() {
        payload(1, 162, 7, 255);
        payload(2, 196, 2, 7, 255);
        payload(5, 198, 0, 0, 0, 2, 7, 255);
        payload(3, 199, 2, 9, 7, 255);
        payload(2, 213, 9, 7, 255);
        payload(3, 218, 0, 2, 7, 255);
        for (int[] none : new int[][] {{7}, {192}, {204, 9}, {202, 1, 2, 3, 4}, {160}, {146, 1, 2}, {129, 1, 2}}) {
            MessageReader reader = Check.reader(none);
            CHECK.due("payload(0) before the first", reader.payload(0), MessageReader.NONE);
            reader.next();
            CHECK.due("payload(0) of a value of " + none[0], reader.payload(0), MessageReader.NONE);
            CHECK.due("payload(-1) of a value of " + none[0], reader.payload(-1), MessageReader.NONE);
        }
    }

    /** The value's payload are the bytes 7, 255; more bytes stand behind it. */
    private static void payload(int head, int... bytes) {
        MessageReader reader = Check.reader(bytes);
        reader.feed(1);
        reader.next();
        String what = "of a value of " + bytes[0];
        CHECK.due("its head " + what, bytes.length - head, 2);
        CHECK.due("payload(0) " + what, reader.payload(0), 7);
        CHECK.due("payload(1) " + what, reader.payload(1), 255);
        for (int i : new int[] {-1, 2, 3, Integer.MIN_VALUE, Integer.MAX_VALUE}) {
            CHECK.due("payload(" + i + ") " + what, reader.payload(i), MessageReader.NONE);
        }
    }
}
