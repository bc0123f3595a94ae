import java.util.Arrays;

/** Promise 16: pack. */
public final class PackTest {
    private static final int[] ANY = {0, 1, -1, 127, 128, -128, -129, 255, Make.LEAST_INT, Make.GREATEST_INT};
    private static final Check CHECK = new Check("promise 16");

    public static void main(String[] args) {
        theKinds();
        CHECK.sentence("The head of a value comes behind all bytes", PackTest::behindAllBytes);
        CHECK.sentence("in its shortest form (of several as short the one with the least first byte)",
            PackTest::readAgain);
        CHECK.sentence("(A payload is to come by feed() or put().)", PackTest::payloadToCome);
        CHECK.sentence("Illegal argument: the kind", PackTest::noSuchKind);
        CHECK.sentence("the length or count", PackTest::noSuchLength);
        CHECK.sentence("the type is not -128 .. 127", PackTest::noSuchType);
        CHECK.sentence("4096 at most", PackTest::justFits);
        CHECK.sentence("illegal state: it has no room", PackTest::noRoom);
        CHECK.sentence("Of several exceptions the one named first is thrown", PackTest::illegalAndNoRoom);
        CHECK.finish();
    }

    private static void theKinds() {
        CHECK.sentence("1 nil, 2 false, 3 true", PackTest::withoutNumber);
        CHECK.sentence("4 a number without sign (0 .. 127 too)", PackTest::withoutSign);
        CHECK.sentence("5 one with sign (224 .. 255 too)", PackTest::withSign);
        CHECK.sentence("6: low alone", PackTest::shortFloats);
        CHECK.sentence("7: both", PackTest::longFloats);
        CHECK.sentence("8 to 11: low is the length or count (0 .. 2^31 - 1) .. 8 text", PackTest::texts);
        CHECK.sentence("8 to 11: low is the length or count (0 .. 2^31 - 1) .. 9 bytes", PackTest::bytes);
        CHECK.sentence("8 to 11: low is the length or count (0 .. 2^31 - 1) .. 10 array", () -> counts(10, 144, 220));
        CHECK.sentence("8 to 11: low is the length or count (0 .. 2^31 - 1) .. 11 map", () -> counts(11, 128, 222));
        CHECK.sentence("12: likewise", PackTest::extensions);
        CHECK.sentence("high the type", PackTest::types);
    }

    private static void head(int kind, int low, int high, int... due) {
        String what = "pack(" + kind + ", " + low + ", " + high + ")";
        MessageReader reader = new MessageReader();
        CHECK.due(what, reader.pack(kind, low, high), due.length);
        CHECK.dueBytes(what, reader, due);
    }

    // ---- the kinds

    private static void withoutNumber() {
        for (int low : ANY) {
            for (int high : ANY) {
                head(1, low, high, 192);
                head(2, low, high, 194);
                head(3, low, high, 195);
            }
        }
    }

    private static void withoutSign() {
        head(4, 0, 0, 0);
        head(4, 1, 0, 1);
        head(4, 126, 0, 126);
        head(4, 127, 0, 127);
        head(4, 128, 0, 204, 128);
        head(4, 255, 0, 204, 255);
        head(4, 256, 0, 205, 1, 0);
        head(4, 32768, 0, 205, 128, 0);
        head(4, 65535, 0, 205, 255, 255);
        head(4, 65536, 0, 206, 0, 1, 0, 0);
        head(4, Make.GREATEST_INT, 0, 206, 127, 255, 255, 255);
        head(4, Make.LEAST_INT, 0, 206, 128, 0, 0, 0);
        head(4, -1, 0, 206, 255, 255, 255, 255);
        head(4, 0, 1, 207, 0, 0, 0, 1, 0, 0, 0, 0);
        head(4, 5, 1, 207, 0, 0, 0, 1, 0, 0, 0, 5);
        head(4, -1, Make.GREATEST_INT, 207, 127, 255, 255, 255, 255, 255, 255, 255);
        head(4, 0, Make.LEAST_INT, 207, 128, 0, 0, 0, 0, 0, 0, 0);
        head(4, -32, -1, 207, 255, 255, 255, 255, 255, 255, 255, 224);
        head(4, -1, -1, 207, 255, 255, 255, 255, 255, 255, 255, 255);
    }

    private static void withSign() {
        head(5, -1, -1, 255);
        head(5, -31, -1, 225);
        head(5, -32, -1, 224);
        head(5, -33, -1, 208, 223);
        head(5, -128, -1, 208, 128);
        head(5, 0, 0, 208, 0);
        head(5, 1, 0, 208, 1);
        head(5, 127, 0, 208, 127);
        head(5, 128, 0, 209, 0, 128);
        head(5, 255, 0, 209, 0, 255);
        head(5, 32767, 0, 209, 127, 255);
        head(5, -129, -1, 209, 255, 127);
        head(5, -32768, -1, 209, 128, 0);
        head(5, 32768, 0, 210, 0, 0, 128, 0);
        head(5, 65535, 0, 210, 0, 0, 255, 255);
        head(5, -32769, -1, 210, 255, 255, 127, 255);
        head(5, Make.GREATEST_INT, 0, 210, 127, 255, 255, 255);
        head(5, Make.LEAST_INT, -1, 210, 128, 0, 0, 0);
        head(5, Make.LEAST_INT, 0, 211, 0, 0, 0, 0, 128, 0, 0, 0);
        head(5, Make.GREATEST_INT, -1, 211, 255, 255, 255, 255, 127, 255, 255, 255);
        head(5, -1, 0, 211, 0, 0, 0, 0, 255, 255, 255, 255);
        head(5, 0, -1, 211, 255, 255, 255, 255, 0, 0, 0, 0);
        head(5, -32, -2, 211, 255, 255, 255, 254, 255, 255, 255, 224);
        head(5, -1, Make.GREATEST_INT, 211, 127, 255, 255, 255, 255, 255, 255, 255);
        head(5, 0, Make.LEAST_INT, 211, 128, 0, 0, 0, 0, 0, 0, 0);
    }

    private static void shortFloats() {
        for (int high : ANY) {
            head(6, 0x3F800000, high, 202, 0x3F, 0x80, 0, 0);
            head(6, 0, high, 202, 0, 0, 0, 0);
            head(6, -1, high, 202, 255, 255, 255, 255);
            head(6, Make.LEAST_INT, high, 202, 128, 0, 0, 0);
            head(6, Make.GREATEST_INT, high, 202, 127, 255, 255, 255);
        }
    }

    private static void longFloats() {
        head(7, 0x05060708, 0x81020304, 203, 0x81, 2, 3, 4, 5, 6, 7, 8);
        head(7, 0, 0, 203, 0, 0, 0, 0, 0, 0, 0, 0);
        head(7, -1, 0, 203, 0, 0, 0, 0, 255, 255, 255, 255);
        head(7, 0, -1, 203, 255, 255, 255, 255, 0, 0, 0, 0);
        head(7, -1, -1, 203, 255, 255, 255, 255, 255, 255, 255, 255);
        head(7, 0, Make.LEAST_INT, 203, 128, 0, 0, 0, 0, 0, 0, 0);
        head(7, Make.LEAST_INT, 0, 203, 0, 0, 0, 0, 128, 0, 0, 0);
    }

    private static void texts() {
        for (int high : ANY) {
            head(8, 0, high, 160);
            head(8, 1, high, 161);
            head(8, 31, high, 191);
            head(8, 32, high, 217, 32);
            head(8, 255, high, 217, 255);
            head(8, 256, high, 218, 1, 0);
            head(8, 65535, high, 218, 255, 255);
            head(8, 65536, high, 219, 0, 1, 0, 0);
            head(8, Make.GREATEST_INT, high, 219, 127, 255, 255, 255);
        }
    }

    private static void bytes() {
        for (int high : ANY) {
            head(9, 0, high, 196, 0);
            head(9, 1, high, 196, 1);
            head(9, 255, high, 196, 255);
            head(9, 256, high, 197, 1, 0);
            head(9, 65535, high, 197, 255, 255);
            head(9, 65536, high, 198, 0, 1, 0, 0);
            head(9, Make.GREATEST_INT, high, 198, 127, 255, 255, 255);
        }
    }

    private static void counts(int kind, int inside, int behind) {
        for (int high : ANY) {
            head(kind, 0, high, inside);
            head(kind, 1, high, inside + 1);
            head(kind, 15, high, inside + 15);
            head(kind, 16, high, behind, 0, 16);
            head(kind, 255, high, behind, 0, 255);
            head(kind, 256, high, behind, 1, 0);
            head(kind, 65535, high, behind, 255, 255);
            head(kind, 65536, high, behind + 1, 0, 1, 0, 0);
            head(kind, Make.GREATEST_INT, high, behind + 1, 127, 255, 255, 255);
        }
    }

    private static void extensions() {
        head(12, 0, 5, 199, 0, 5);
        head(12, 1, 5, 212, 5);
        head(12, 2, 5, 213, 5);
        head(12, 3, 5, 199, 3, 5);
        head(12, 4, 5, 214, 5);
        head(12, 5, 5, 199, 5, 5);
        head(12, 7, 5, 199, 7, 5);
        head(12, 8, 5, 215, 5);
        head(12, 9, 5, 199, 9, 5);
        head(12, 15, 5, 199, 15, 5);
        head(12, 16, 5, 216, 5);
        head(12, 17, 5, 199, 17, 5);
        head(12, 32, 5, 199, 32, 5);
        head(12, 255, 5, 199, 255, 5);
        head(12, 256, 5, 200, 1, 0, 5);
        head(12, 65535, 5, 200, 255, 255, 5);
        head(12, 65536, 5, 201, 0, 1, 0, 0, 5);
        head(12, Make.GREATEST_INT, 5, 201, 127, 255, 255, 255, 5);
    }

    private static void types() {
        for (int type : new int[] {-128, -127, -1, 0, 1, 126, 127}) {
            head(12, 0, type, 199, 0, type & 255);
            head(12, 1, type, 212, type & 255);
            head(12, 2, type, 213, type & 255);
            head(12, 4, type, 214, type & 255);
            head(12, 8, type, 215, type & 255);
            head(12, 16, type, 216, type & 255);
            head(12, 255, type, 199, 255, type & 255);
            head(12, 256, type, 200, 1, 0, type & 255);
            head(12, 65536, type, 201, 0, 1, 0, 0, type & 255);
        }
    }

    // ---- where it comes

    private static void behindAllBytes() {
        MessageReader reader = Make.bytes(1, 2);
        reader.next();
        CHECK.due("pack()", reader.pack(12, 256, -1), 4);
        CHECK.dueBytes("a head behind a consumed byte and another", reader, 1, 2, 200, 1, 0, 255);
        CHECK.due("consumed() behind it", reader.consumed(), 1);
        CHECK.dueGiven("behind it", reader, 4, 1, 0);
        CHECK.dueOpen("behind it", reader);
        reader.cut(5);
        reader.pack(1, 0, 0);
        CHECK.dueBytes("behind a cut", reader, 1, 192);
        reader = Make.behindText();
        reader.pack(10, 1, 0);
        CHECK.dueOpen("a packed array is not open", reader, 1);
    }

    /** What next() tells of a packed head is what was packed, and no form of fewer bytes tells it. */
    private static void readAgain() {
        int[] numbers = {0, 127, 128, 255, 256, 32767, 32768, 65535, 65536, Make.GREATEST_INT, Make.LEAST_INT, -1, -32,
            -33, -128, -129, -32768, -32769};
        for (int low : numbers) {
            for (int high : new int[] {0, -1, 1, Make.LEAST_INT, Make.GREATEST_INT}) {
                packedAndRead(4, low, high, high);
                packedAndRead(5, low, high, high);
                packedAndRead(6, low, high, 0);
                packedAndRead(7, low, high, high);
            }
            if (low >= 0) {
                packedAndRead(10, low, 5, 0);
                packedAndRead(11, low, 5, 0);
            }
        }
    }

    private static void packedAndRead(int kind, int low, int high, int dueHigh) {
        String what = "pack(" + kind + ", " + low + ", " + high + ") and next()";
        MessageReader reader = new MessageReader();
        int length = reader.pack(kind, low, high);
        CHECK.due(what, reader.next(), kind);
        CHECK.dueGiven(what, reader, kind, low, dueHigh);
        CHECK.due(what + ": consumed()", reader.consumed(), length);
    }

    private static void payloadToCome() {
        MessageReader reader = new MessageReader();
        reader.pack(8, 2, 0);
        CHECK.due("next() of a packed head alone", reader.next(), MessageReader.MORE);
        reader.feed(4);
        CHECK.due("next() with half its payload", reader.next(), MessageReader.MORE);
        reader.feed(5);
        CHECK.due("next() with its payload", reader.next(), 8);
        CHECK.due("payload(1) of it", reader.payload(1), 5);
        reader.pack(12, 8, -128);
        reader.put(0x0102030405060708L, 8);
        CHECK.due("next() of an extension", reader.next(), 12);
        CHECK.dueGiven("the extension", reader, 12, 8, -128);
        CHECK.due("payload(0) of it", reader.payload(0), 1);
        CHECK.due("payload(7) of it", reader.payload(7), 8);
        reader.pack(9, 0, 0);
        CHECK.due("next() of bytes that are none", reader.next(), 9);
    }

    // ---- refused calls

    private static void refused(int kind, int low, int high) {
        String what = "pack(" + kind + ", " + low + ", " + high + ")";
        CHECK.illegalArgument(what + " to none", MessageReader::new, r -> r.pack(kind, low, high));
        CHECK.illegalArgument(what, () -> Make.behindText(1), r -> r.pack(kind, low, high));
    }

    private static void noSuchKind() {
        for (int kind : new int[] {0, 13, -1, 14, 192, Make.LEAST_INT, Make.GREATEST_INT}) {
            refused(kind, 0, 0);
            refused(kind, -1, 128);
        }
    }

    private static void noSuchLength() {
        for (int kind = 8; kind <= 12; kind++) {
            refused(kind, -1, 0);
            refused(kind, -2, 0);
            refused(kind, Make.LEAST_INT, 0);
        }
        refused(12, -1, 128);
        for (int kind = 1; kind <= 7; kind++) {
            CHECK.due("is pack(" + kind + ", -1, 0) taken?", new MessageReader().pack(kind, -1, 0) > 0 ? 1 : 0, 1);
        }
    }

    private static void noSuchType() {
        for (int type : new int[] {-129, 128, 255, 256, -256, Make.LEAST_INT, Make.GREATEST_INT}) {
            for (int length : new int[] {0, 1, 16, 17, 256, 65536, Make.GREATEST_INT}) {
                refused(12, length, type);
            }
            for (int kind = 1; kind <= 11; kind++) {
                int taken = new MessageReader().pack(kind, 3, type) > 0 ? 1 : 0;
                CHECK.due("is pack(" + kind + ", 3, " + type + ") taken?", taken, 1);
            }
        }
    }

    /** Each form that a head can have, with its length. */
    private static final int[][] FORMS = {
        {1, 0, 0, 1}, {2, 0, 0, 1}, {3, 0, 0, 1}, {4, 127, 0, 1}, {5, -1, -1, 1}, {8, 31, 0, 1}, {10, 15, 0, 1},
        {11, 15, 0, 1}, {4, 128, 0, 2}, {5, 0, 0, 2}, {8, 32, 0, 2}, {9, 0, 0, 2}, {12, 1, 0, 2}, {12, 16, 0, 2},
        {4, 256, 0, 3}, {5, 128, 0, 3}, {8, 256, 0, 3}, {9, 256, 0, 3}, {10, 16, 0, 3}, {11, 16, 0, 3}, {12, 0, 0, 3},
        {12, 256, 0, 4}, {4, -1, 0, 5}, {5, 32768, 0, 5}, {6, 0, 0, 5}, {8, 65536, 0, 5}, {9, 65536, 0, 5},
        {10, 65536, 0, 5}, {11, 65536, 0, 5}, {12, 65536, 0, 6}, {4, 0, 1, 9}, {5, -1, 0, 9}, {7, 0, 0, 9},
    };

    private static void justFits() {
        for (int[] form : FORMS) {
            int length = form[3];
            String what = "pack " + Arrays.toString(form);
            MessageReader reader = Make.filled(4096 - length);
            CHECK.due(what + " into just its room", reader.pack(form[0], form[1], form[2]), length);
            CHECK.due(what + ": how many bytes there are", Make.size(reader), 4096);
            MessageReader alone = new MessageReader();
            alone.pack(form[0], form[1], form[2]);
            for (int i = 0; i < length; i++) {
                CHECK.due(what + ": byte " + i, reader.byteAt(4096 - length + i), alone.byteAt(i));
            }
        }
    }

    private static void noRoom() {
        for (int[] form : FORMS) {
            int most = 4097 - form[3];
            String what = "pack " + Arrays.toString(form);
            CHECK.illegalState(what + " to " + most, () -> Make.filled(most),
                r -> r.pack(form[0], form[1], form[2]));
            CHECK.illegalState(what + " to 4096", () -> Make.filled(4096),
                r -> r.pack(form[0], form[1], form[2]));
            CHECK.illegalState(what + ", some being consumed", () -> Make.filledBehindText(most),
                r -> r.pack(form[0], form[1], form[2]));
        }
        MessageReader reader = Make.filled(4096);
        reader.cut(9);
        CHECK.due("pack() behind a cut of 4096", reader.pack(7, 0, 0), 9);
    }

    private static void illegalAndNoRoom() {
        int[][] calls = {{0, 0, 0}, {13, 0, 0}, {-1, 0, 0}, {8, -1, 0}, {9, -1, 0}, {10, -1, 0}, {11, -1, 0},
            {12, -1, 0}, {12, 0, -129}, {12, 0, 128}, {12, -1, 128}, {8, Make.LEAST_INT, 0}};
        for (int[] call : calls) {
            CHECK.illegalArgument("pack " + Arrays.toString(call) + " to 4096", () -> Make.filled(4096),
                r -> r.pack(call[0], call[1], call[2]));
        }
    }
}
