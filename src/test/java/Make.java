/** Makes readers for the tests, with so few calls that enough of their 512 are left. */
final class Make {
    static final int MOST_BYTES = 4096;
    static final int MOST_OPEN = 100;
    static final int LEAST_INT = Integer.MIN_VALUE;
    static final int GREATEST_INT = Integer.MAX_VALUE;

    private Make() {
    }

    /** These bytes, none of them consumed. */
    static MessageReader bytes(int... bytes) {
        return feed(new MessageReader(), bytes);
    }

    static MessageReader feed(MessageReader reader, int... bytes) {
        for (int b : bytes) {
            reader.feed(b);
        }
        return reader;
    }

    /** So many bytes, none of them consumed: floats of 8 bytes, then numbers -1. */
    static MessageReader filled(int size) {
        return fill(new MessageReader(), size);
    }

    /** Behind the bytes of a reader come floats and numbers, until there are so many bytes. */
    static MessageReader fill(MessageReader reader, int size) {
        int left = size - size(reader);
        for (; left >= 9; left -= 9) {
            reader.pack(7, -1, -1);
        }
        if (left > 0) {
            reader.put(-1, left);
        }
        return reader;
    }

    /** A text that is as long as it can be, all its bytes there, none consumed: 3 bytes of head, 4093 of payload. */
    static MessageReader longestText() {
        MessageReader reader = new MessageReader();
        reader.pack(8, MOST_BYTES - 3, 0);
        return fill(reader, MOST_BYTES);
    }

    /** Open is an array of two, given last was a text of one byte in it; these bytes stand behind it. */
    static MessageReader behindText(int... bytes) {
        MessageReader reader = bytes(146, 161, 77);
        reader.next();
        reader.next();
        return feed(reader, bytes);
    }

    /** The same with so many bytes in all. */
    static MessageReader filledBehindText(int size) {
        return fill(behindText(), size);
    }

    /** So many arrays of one are open one inside the other; these bytes stand behind their heads. */
    static MessageReader nested(int open, int... bytes) {
        MessageReader reader = new MessageReader();
        for (int i = 0; i < open; i++) {
            reader.feed(145);
            reader.next();
        }
        return feed(reader, bytes);
    }

    static int size(MessageReader reader) {
        return reader.cut(0);
    }
}
