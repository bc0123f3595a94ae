import java.util.Arrays;
import java.util.function.Consumer;

/** Promises 8 to 11: kind, valueLow, valueHigh, payload. */
public final class GivenTest {
    private static final int NONE = MessageReader.NONE;
    private static final Check CHECK = new Check("promises 8 to 11");

    public static void main(String[] args) {
        CHECK.sentence("NONE before the first one", GivenTest::beforeTheFirst);
        CHECK.sentence("0 for others and before the first value", GivenTest::others);
        CHECK.sentence("The kind of the value that was given last", GivenTest::kindOfTheLast);
        CHECK.sentence("Otherwise nothing changes", GivenTest::behindOtherCalls);
        CHECK.sentence("The lowest 32 bits of the number, of the float's bits", GivenTest::lowestBits);
        CHECK.sentence("the length or count", GivenTest::lengthsAndCounts);
        CHECK.sentence("The highest 32 bits (of numbers by their sign, if they have one)", GivenTest::highestBits);
        CHECK.sentence("the extension's type (-128 .. 127)", GivenTest::types);
        CHECK.sentence("Byte i of the payload of the value given last", GivenTest::payloads);
        CHECK.sentence("NONE if there is none such", GivenTest::noSuchPayload);
        CHECK.finish();
    }

    private static MessageReader given(int... bytes) {
        MessageReader reader = Make.bytes(bytes);
        reader.next();
        return reader;
    }

    private static void beforeTheFirst() {
        int[][] refused = {{}, {193}, {162, 1}, {205, 1}, {198, 128, 0, 0, 0}, {146, 7}, {161}};
        for (int[] bytes : refused) {
            MessageReader reader = Make.bytes(bytes);
            noneGiven("with " + Arrays.toString(bytes), reader);
            reader.skip();
            noneGiven("behind a skip() that consumed none of " + Arrays.toString(bytes), reader);
            if (bytes.length != 2 || bytes[0] != 146) {
                reader.next();
                noneGiven("behind a next() that gave none of " + Arrays.toString(bytes), reader);
            }
        }
        MessageReader reader = new MessageReader();
        reader.pack(5, -1, -1);
        noneGiven("behind a pack()", reader);
        reader.whole();
        noneGiven("behind a whole()", reader);
        reader.cut(1);
        noneGiven("behind a cut()", reader);
    }

    private static void noneGiven(String what, MessageReader reader) {
        CHECK.dueGiven(what, reader, NONE, 0, 0);
        CHECK.due(what + ": payload(0)", reader.payload(0), NONE);
        CHECK.due(what + ": payload(-1)", reader.payload(-1), NONE);
    }

    /** Those without a number, behind a value that has one, so that nothing of that is left. */
    private static void others() {
        for (int first : new int[] {192, 194, 195}) {
            MessageReader reader = Make.bytes(199, 1, 128, 9, 211, 1, 2, 3, 4, 5, 6, 7, 8, first);
            reader.next();
            reader.next();
            reader.next();
            CHECK.due("valueLow() of " + first, reader.valueLow(), 0);
            CHECK.due("valueHigh() of " + first, reader.valueHigh(), 0);
            CHECK.due("payload(0) of " + first, reader.payload(0), NONE);
        }
    }

    private static void kindOfTheLast() {
        MessageReader reader = Make.bytes(192, 194, 195, 0, 204, 9, 255, 208, 9, 202, 1, 2, 3, 4,
            203, 1, 2, 3, 4, 5, 6, 7, 8, 160, 217, 0, 196, 0, 144, 220, 0, 0, 128, 222, 0, 0, 199, 0, 1, 212, 1, 1);
        int[] kinds = {1, 2, 3, 4, 4, 5, 5, 6, 7, 8, 8, 9, 10, 10, 11, 11, 12, 12};
        for (int kind : kinds) {
            CHECK.due("next()", reader.next(), kind);
            CHECK.due("kind()", reader.kind(), kind);
            CHECK.due("kind() again", reader.kind(), kind);
        }
    }

    private static void behindOtherCalls() {
        staysGiven("feed()", r -> r.feed(1));
        staysGiven("put()", r -> r.put(-1, 8));
        staysGiven("pack()", r -> r.pack(5, -1, -1));
        staysGiven("cut()", r -> r.cut(1));
        staysGiven("whole()", MessageReader::whole);
        staysGiven("next() of INVALID", r -> {
            r.cut(1);
            r.feed(193);
            r.next();
        });
        staysGiven("next() of MORE", r -> {
            r.cut(1);
            r.next();
        });
        staysGiven("skip() of LARGE", r -> {
            r.cut(1);
            Make.feed(r, 223, 255, 255, 255, 255);
            r.skip();
        });
        staysGiven("next() of LARGE", r -> {
            r.cut(1);
            Make.feed(r, 223, 255, 255, 255, 255);
            r.next();
        });
        MessageReader deep = Make.nested(100, 143);
        deep.next();
        CHECK.dueGiven("behind next() of DEEP", deep, 10, 1, 0);
    }

    private static void staysGiven(String what, Consumer<MessageReader> call) {
        MessageReader reader = Make.bytes(213, 251, 7, 8, 9);
        reader.next();
        call.accept(reader);
        CHECK.dueGiven("behind " + what, reader, 12, 2, -5);
        CHECK.due("behind " + what + ": payload(0)", reader.payload(0), 7);
        CHECK.due("behind " + what + ": payload(1)", reader.payload(1), 8);
        CHECK.due("behind " + what + ": payload(2)", reader.payload(2), NONE);
    }

    private static void low(int due, int... bytes) {
        CHECK.due("valueLow() of " + Arrays.toString(bytes), given(bytes).valueLow(), due);
    }

    private static void high(int due, int... bytes) {
        CHECK.due("valueHigh() of " + Arrays.toString(bytes), given(bytes).valueHigh(), due);
    }

    private static void lowestBits() {
        low(0, 0);
        low(127, 127);
        low(-32, 224);
        low(-1, 255);
        low(255, 204, 255);
        low(65535, 205, 255, 255);
        low(-1, 206, 255, 255, 255, 255);
        low(0x85060708, 207, 0x81, 2, 3, 4, 0x85, 6, 7, 8);
        low(-128, 208, 128);
        low(-32768, 209, 128, 0);
        low(Make.LEAST_INT, 210, 128, 0, 0, 0);
        low(0x85060708, 211, 0x81, 2, 3, 4, 0x85, 6, 7, 8);
        low(0x81020304, 202, 0x81, 2, 3, 4);
        low(0x85060708, 203, 0x81, 2, 3, 4, 0x85, 6, 7, 8);
    }

    private static void lengthsAndCounts() {
        low(0, 160);
        low(2, 162, 9, 9);
        low(1, 217, 1, 9);
        low(1, 196, 1, 9);
        low(0, 198, 0, 0, 0, 0);
        low(15, 143);
        low(15, 159);
        low(65535, 220, 255, 255);
        low(65535, 222, 255, 255);
        low(Make.GREATEST_INT, 221, 127, 255, 255, 255);
        low(Make.GREATEST_INT, 223, 127, 255, 255, 255);
        low(1, 212, 200, 9);
        low(0, 199, 0, 200);
        high(0, 162, 9, 9);
        high(0, 196, 1, 9);
        high(0, 143);
        high(0, 159);
        high(0, 221, 127, 255, 255, 255);
        high(0, 223, 127, 255, 255, 255);
    }

    private static void highestBits() {
        high(0, 127);
        high(-1, 224);
        high(-1, 255);
        high(0, 204, 255);
        high(0, 205, 255, 255);
        high(0, 206, 255, 255, 255, 255);
        high(0x81020304, 207, 0x81, 2, 3, 4, 0x85, 6, 7, 8);
        high(0, 208, 127);
        high(-1, 208, 128);
        high(0, 209, 127, 255);
        high(-1, 209, 128, 0);
        high(0, 210, 127, 255, 255, 255);
        high(-1, 210, 128, 0, 0, 0);
        high(0x81020304, 211, 0x81, 2, 3, 4, 0x85, 6, 7, 8);
        high(0, 211, 0, 0, 0, 0, 255, 6, 7, 8);
        high(0, 202, 0x81, 2, 3, 4);
        high(0x81020304, 203, 0x81, 2, 3, 4, 0x85, 6, 7, 8);
    }

    private static void types() {
        int[][] types = {{0, 0}, {1, 1}, {127, 127}, {128, -128}, {129, -127}, {255, -1}};
        for (int[] type : types) {
            high(type[1], 199, 0, type[0]);
            high(type[1], 199, 1, type[0], 9);
            high(type[1], 200, 0, 1, type[0], 9);
            high(type[1], 201, 0, 0, 0, 1, type[0], 9);
            high(type[1], 212, type[0], 9);
            high(type[1], 213, type[0], 9, 9);
            high(type[1], 214, type[0], 9, 9, 9, 9);
            high(type[1], 215, type[0], 9, 9, 9, 9, 9, 9, 9, 9);
            high(type[1], 216, type[0], 9, 9, 9, 9, 9, 9, 9, 9, 9, 9, 9, 9, 9, 9, 9, 9);
        }
    }

    /** Each form of a head that has a payload: its first and last byte, and that no other is one of it. */
    private static void payloads() {
        int[][] heads = {{163}, {196, 3}, {197, 0, 3}, {198, 0, 0, 0, 3}, {199, 3, 5}, {200, 0, 3, 5},
            {201, 0, 0, 0, 3, 5}, {217, 3}, {218, 0, 3}, {219, 0, 0, 0, 3}};
        for (int[] head : heads) {
            MessageReader reader = Make.feed(Make.bytes(192), head);
            reader.next();
            Make.feed(reader, 0, 128, 255, 7);
            reader.next();
            String what = " of " + Arrays.toString(head);
            CHECK.due("payload(-1)" + what, reader.payload(-1), NONE);
            CHECK.due("payload(0)" + what, reader.payload(0), 0);
            CHECK.due("payload(1)" + what, reader.payload(1), 128);
            CHECK.due("payload(2)" + what, reader.payload(2), 255);
            CHECK.due("payload(3)" + what, reader.payload(3), NONE);
        }
        for (int step = 0; step < 5; step++) {
            MessageReader reader = Make.bytes(212 + step, 5);
            for (int i = 0; i < 17; i++) {
                reader.feed(100 + i);
            }
            reader.next();
            String what = " of " + (212 + step);
            CHECK.due("payload(0)" + what, reader.payload(0), 100);
            CHECK.due("the last one" + what, reader.payload((1 << step) - 1), 99 + (1 << step));
            CHECK.due("the one behind" + what, reader.payload(1 << step), NONE);
            CHECK.due("payload(-1)" + what, reader.payload(-1), NONE);
        }
    }

    private static void noSuchPayload() {
        for (int i : new int[] {-1, 1, 2, 4095, 4096, Make.LEAST_INT, Make.GREATEST_INT}) {
            CHECK.due("payload(" + i + ") of one", Make.behindText(9, 9).payload(i), NONE);
        }
        int[][] without = {{7}, {255}, {192}, {195}, {204, 9}, {208, 9}, {202, 1, 2, 3, 4}, {160}, {196, 0},
            {199, 0, 5}, {217, 0}, {146, 1, 2}, {129, 1, 2}, {221, 0, 0, 0, 2}, {203, 1, 2, 3, 4, 5, 6, 7, 8}};
        for (int[] bytes : without) {
            MessageReader reader = given(bytes);
            reader.put(0, 8);
            for (int i : new int[] {-2, -1, 0, 1, 2}) {
                CHECK.due("payload(" + i + ") of " + Arrays.toString(bytes), reader.payload(i), NONE);
            }
        }
    }
}
