import java.util.Arrays;

/** Promise 16: pack. */
public final class PackTest {
    private static final int MOST = 4096;
    private static final Check CHECK = new Check();

    public static void main(String[] args) {
        withoutNumber();
        unsigned();
        signed();
        floats();
        lengths();
        counts();
        extensions();
        behindAllBytes();
        illegalArguments();
        noRoom();
        CHECK.finish();
    }

    private static void head(int kind, int low, int high, int... due) {
        String what = "pack(" + kind + ", " + low + ", " + high + ")";
        MessageReader reader = new MessageReader();
        CHECK.due(what, reader.pack(kind, low, high), due.length);
        CHECK.dueBytes(what, reader, due);
    }

    private static void withoutNumber() {
        for (int number : new int[] {0, 7, -1, Integer.MIN_VALUE}) {
            head(1, number, number, 192);
            head(2, number, number, 194);
            head(3, number, number, 195);
        }
    }

    private static void unsigned() {
        head(4, 0, 0, 0);
        head(4, 127, 0, 127);
        head(4, 128, 0, 204, 128);
        head(4, 255, 0, 204, 255);
        head(4, 256, 0, 205, 1, 0);
        head(4, 65535, 0, 205, 255, 255);
        head(4, 65536, 0, 206, 0, 1, 0, 0);
        head(4, Integer.MIN_VALUE, 0, 206, 128, 0, 0, 0);
        head(4, -1, 0, 206, 255, 255, 255, 255);
        head(4, 0, 1, 207, 0, 0, 0, 1, 0, 0, 0, 0);
        head(4, 5, Integer.MIN_VALUE, 207, 128, 0, 0, 0, 0, 0, 0, 5);
        head(4, -1, -1, 207, 255, 255, 255, 255, 255, 255, 255, 255);
    }

    private static void signed() {
        head(5, -1, -1, 255);
        head(5, -32, -1, 224);
        head(5, -33, -1, 208, 223);
        head(5, 0, 0, 208, 0);
        head(5, 127, 0, 208, 127);
        head(5, -128, -1, 208, 128);
        head(5, 128, 0, 209, 0, 128);
        head(5, 32767, 0, 209, 127, 255);
        head(5, -129, -1, 209, 255, 127);
        head(5, -32768, -1, 209, 128, 0);
        head(5, 32768, 0, 210, 0, 0, 128, 0);
        head(5, -32769, -1, 210, 255, 255, 127, 255);
        head(5, Integer.MAX_VALUE, 0, 210, 127, 255, 255, 255);
        head(5, Integer.MIN_VALUE, -1, 210, 128, 0, 0, 0);
        head(5, Integer.MIN_VALUE, 0, 211, 0, 0, 0, 0, 128, 0, 0, 0);
        head(5, Integer.MAX_VALUE, -1, 211, 255, 255, 255, 255, 127, 255, 255, 255);
        head(5, -1, 0, 211, 0, 0, 0, 0, 255, 255, 255, 255);
        head(5, 0, Integer.MIN_VALUE, 211, 128, 0, 0, 0, 0, 0, 0, 0);
    }

    private static void floats() {
        head(6, 0x3F800000, 9, 202, 0x3F, 0x80, 0, 0);
        head(6, 0, -1, 202, 0, 0, 0, 0);
        head(6, -1, 0, 202, 255, 255, 255, 255);
        head(7, 0x05060708, 0x81020304, 203, 0x81, 2, 3, 4, 5, 6, 7, 8);
        head(7, 0, 0, 203, 0, 0, 0, 0, 0, 0, 0, 0);
    }

    private static void lengths() {
        for (int high : new int[] {0, 1, -1, 128}) {
            head(8, 0, high, 160);
            head(8, 31, high, 191);
            head(8, 32, high, 217, 32);
            head(8, 255, high, 217, 255);
            head(8, 256, high, 218, 1, 0);
            head(8, 65535, high, 218, 255, 255);
            head(8, 65536, high, 219, 0, 1, 0, 0);
            head(8, Integer.MAX_VALUE, high, 219, 127, 255, 255, 255);
            head(9, 0, high, 196, 0);
            head(9, 255, high, 196, 255);
            head(9, 256, high, 197, 1, 0);
            head(9, 65535, high, 197, 255, 255);
            head(9, 65536, high, 198, 0, 1, 0, 0);
            head(9, Integer.MAX_VALUE, high, 198, 127, 255, 255, 255);
        }
    }

    private static void counts() {
        for (int high : new int[] {0, 1, -1, 128}) {
            head(10, 0, high, 144);
            head(10, 15, high, 159);
            head(10, 16, high, 220, 0, 16);
            head(10, 65535, high, 220, 255, 255);
            head(10, 65536, high, 221, 0, 1, 0, 0);
            head(10, Integer.MAX_VALUE, high, 221, 127, 255, 255, 255);
            head(11, 0, high, 128);
            head(11, 15, high, 143);
            head(11, 16, high, 222, 0, 16);
            head(11, 65535, high, 222, 255, 255);
            head(11, 65536, high, 223, 0, 1, 0, 0);
            head(11, Integer.MAX_VALUE, high, 223, 127, 255, 255, 255);
        }
    }

    private static void extensions() {
        head(12, 0, 5, 199, 0, 5);
        head(12, 1, 5, 212, 5);
        head(12, 2, -1, 213, 255);
        head(12, 3, -128, 199, 3, 128);
        head(12, 4, 127, 214, 127);
        head(12, 8, 0, 215, 0);
        head(12, 16, 1, 216, 1);
        head(12, 15, 1, 199, 15, 1);
        head(12, 17, 1, 199, 17, 1);
        head(12, 32, 1, 199, 32, 1);
        head(12, 255, 1, 199, 255, 1);
        head(12, 256, -2, 200, 1, 0, 254);
        head(12, 65535, 1, 200, 255, 255, 1);
        head(12, 65536, 1, 201, 0, 1, 0, 0, 1);
        head(12, Integer.MAX_VALUE, 1, 201, 127, 255, 255, 255, 1);
    }

    private static void behindAllBytes() {
        MessageReader reader = Check.reader(1, 2);
        reader.next();
        reader.pack(8, 2, 0);
        CHECK.dueBytes("a head behind a consumed byte and another", reader, 1, 2, 162);
        CHECK.due("consumed() behind pack()", reader.consumed(), 1);
        CHECK.due("valueLow() behind pack()", reader.valueLow(), 1);
        reader.next();
        CHECK.due("next() of a packed head without its payload", reader.next(), MessageReader.MORE);
        reader.put(0x0405, 2);
        CHECK.due("next() of a packed head with its payload", reader.next(), 8);
        CHECK.due("payload(1) of it", reader.payload(1), 5);
    }

    private static void refused(int kind, int low, int high) {
        String what = "pack(" + kind + ", " + low + ", " + high + ")";
        CHECK.illegalArgument(what, () -> Check.reader(1, 2), r -> r.pack(kind, low, high));
        CHECK.illegalArgument(what + " without room", () -> Check.filled(MOST), r -> r.pack(kind, low, high));
    }

    private static void illegalArguments() {
        for (int kind : new int[] {0, 13, -1, Integer.MIN_VALUE, Integer.MAX_VALUE}) {
            refused(kind, 0, 0);
        }
        for (int kind = 8; kind <= 12; kind++) {
            refused(kind, -1, 0);
            refused(kind, Integer.MIN_VALUE, 0);
        }
        for (int type : new int[] {-129, 128, 255, Integer.MIN_VALUE, Integer.MAX_VALUE}) {
            refused(12, 0, type);
            refused(12, 16, type);
        }
    }

    /** Each length that a head can have, into the room of just so many bytes and of one less. */
    private static void noRoom() {
        int[][] calls = {
            {1, 0, 0, 1}, {4, 200, 0, 2}, {12, 16, 0, 2}, {10, 16, 0, 3}, {12, 0, 0, 3},
            {12, 256, 0, 4}, {6, 0, 0, 5}, {12, 65536, 0, 6}, {7, 0, 0, 9}, {4, 0, 1, 9},
        };
        for (int[] call : calls) {
            String what = "pack " + Arrays.toString(call);
            int length = call[3];
            MessageReader reader = Check.filled(MOST - length);
            CHECK.due(what + " into just its room", reader.pack(call[0], call[1], call[2]), length);
            CHECK.due(what + ": size", Check.size(reader), MOST);
            CHECK.illegalState(what + " without room", () -> Check.filled(MOST - length + 1),
                r -> r.pack(call[0], call[1], call[2]));
        }
    }
}
