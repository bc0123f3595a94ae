/**
 * A streaming reader of packed messages, and a packer of heads in their shortest form.
 *
 * <p>The bytes stay for the object's whole life, so a value that was given is kept as the place of
 * its head alone, and all that is asked of it later is read from there again.
 */
public final class MessageReader {
    public static final int NONE = -1;
    public static final int MORE = -2;
    public static final int INVALID = -3;
    public static final int LARGE = -4;
    public static final int DEEP = -5;

    private static final int MOST_BYTES = 4096;
    private static final int MOST_OPEN = 100;
    private static final long MOST_LENGTH = 2147483647L;
    private static final long LOW_HALF = 4294967295L;

    private static final int NIL = 1;
    private static final int FALSE = 2;
    private static final int TRUE = 3;
    private static final int UNSIGNED = 4;
    private static final int SIGNED = 5;
    private static final int FLOAT = 6;
    private static final int DOUBLE = 7;
    private static final int TEXT = 8;
    private static final int BINARY = 9;
    private static final int ARRAY = 10;
    private static final int MAP = 11;
    private static final int EXTENSION = 12;

    private static final int NO_VALUE = 193;

    // The two rows below are for the first bytes 192 .. 223, the only ones that no simple range tells.
    private static final int ROW_START = 192;
    private static final int ROW_END = 223;
    private static final int[] ROW_KIND = {
        NIL, 0, FALSE, TRUE,
        BINARY, BINARY, BINARY,
        EXTENSION, EXTENSION, EXTENSION,
        FLOAT, DOUBLE,
        UNSIGNED, UNSIGNED, UNSIGNED, UNSIGNED,
        SIGNED, SIGNED, SIGNED, SIGNED,
        EXTENSION, EXTENSION, EXTENSION, EXTENSION, EXTENSION,
        TEXT, TEXT, TEXT,
        ARRAY, ARRAY,
        MAP, MAP
    };
    private static final int[] ROW_WIDTH = {
        0, 0, 0, 0,
        1, 2, 4,
        1, 2, 4,
        4, 8,
        1, 2, 4, 8,
        1, 2, 4, 8,
        0, 0, 0, 0, 0,
        1, 2, 4,
        2, 4,
        2, 4
    };

    private final byte[] store;
    private int size;
    private int consumed;
    /** Where the head of the value given last begins; NONE before the first one. */
    private int given;
    /** How many children each open container still has, the outermost one first. */
    private final long[] childrenLeft;
    private int open;

    public MessageReader() {
        store = new byte[MOST_BYTES];
        size = 0;
        consumed = 0;
        given = NONE;
        childrenLeft = new long[MOST_OPEN];
        open = 0;
    }

    // ---- bytes

    public int feed(int b) throws IllegalArgumentException, IllegalStateException {
        if (b < 0 || b > 255) {
            throw new IllegalArgumentException("a byte is 0 .. 255");
        }
        if (!hasRoom(1)) {
            throw new IllegalStateException("no room for a byte");
        }
        append(b, 1);
        return size;
    }

    public int put(long bytes, int n) throws IllegalArgumentException, IllegalStateException {
        if (n < 1 || n > 8) {
            throw new IllegalArgumentException("1 .. 8 bytes can be put");
        }
        if (!hasRoom(n)) {
            throw new IllegalStateException("no room for so many bytes");
        }
        append(bytes, n);
        return size;
    }

    public int cut(int n) throws IllegalArgumentException {
        if (n < 0 || n > size - consumed) {
            throw new IllegalArgumentException("only bytes that are not consumed can be cut");
        }
        size -= n;
        return size;
    }

    public int byteAt(int i) throws IllegalArgumentException {
        if (i < 0 || i >= size) {
            throw new IllegalArgumentException("there is no such byte");
        }
        return storedByte(i);
    }

    // ---- reading

    public int next() {
        int answer = lookAt(consumed);
        if (answer < 0) {
            return answer;
        }
        long children = childrenAt(consumed);
        if (children > 0 && open == MOST_OPEN) {
            return DEEP;
        }
        countChild();
        openContainer(children);
        closeFinished();
        consume(consumed);
        return answer;
    }

    public int skip() {
        int last = lastHeadFrom(consumed);
        if (last < 0) {
            return last;
        }
        int before = consumed;
        countChild();
        closeFinished();
        consume(last);
        return consumed - before;
    }

    public int kind() {
        return given < 0 ? NONE : kindAt(given);
    }

    public int valueLow() {
        return given < 0 ? 0 : (int) numberAt(given);
    }

    public int valueHigh() {
        if (given < 0) {
            return 0;
        }
        if (kindAt(given) == EXTENSION) {
            return typeAt(given);
        }
        return (int) (numberAt(given) >>> 32);
    }

    public int payload(int i) {
        if (given < 0 || i < 0 || i >= payloadLengthAt(given)) {
            return NONE;
        }
        return storedByte(given + headLengthAt(given) + i);
    }

    public int level() {
        return open;
    }

    public long remaining(int k) throws IllegalArgumentException {
        if (k < 0) {
            throw new IllegalArgumentException("containers are counted from 0 on");
        }
        return k >= open ? NONE : childrenLeft[open - 1 - k];
    }

    public int consumed() {
        return consumed;
    }

    public int whole() {
        int at = consumed;
        // A value has one byte at least, so there are never more values than bytes.
        for (int count = 0; count < MOST_BYTES; count++) {
            int last = lastHeadFrom(at);
            if (last < 0) {
                return count;
            }
            at = endAt(last);
        }
        return MOST_BYTES;
    }

    // ---- packing

    public int pack(int kind, int low, int high) throws IllegalArgumentException, IllegalStateException {
        if (kind < NIL || kind > EXTENSION) {
            throw new IllegalArgumentException("there is no such kind");
        }
        if (kind >= TEXT && low < 0) {
            throw new IllegalArgumentException("a length or count is 0 .. 2^31 - 1");
        }
        if (kind == EXTENSION && (high < -128 || high > 127)) {
            throw new IllegalArgumentException("a type is -128 .. 127");
        }
        long number = numberOf(kind, low, high);
        int first = shortestForm(kind, number);
        int length = headLength(first);
        if (!hasRoom(length)) {
            throw new IllegalStateException("no room for the head");
        }
        append(first, 1);
        append(number, width(first));
        append(high, typeWidth(first));
        return length;
    }

    // ---- keeping bytes

    private boolean hasRoom(int n) {
        return n <= MOST_BYTES - size;
    }

    private void append(long number, int n) {
        for (int i = n - 1; i >= 0; i--) {
            store[size] = (byte) (number >>> (8 * i));
            size++;
        }
    }

    private int storedByte(int at) {
        return store[at] & 255;
    }

    private long readNumber(int at, int n) {
        long number = 0;
        for (int i = 0; i < n; i++) {
            number = (number << 8) | storedByte(at + i);
        }
        return number;
    }

    // ---- what a first byte tells

    private static int kindOf(int first) {
        if (first < 128) {
            return UNSIGNED;
        }
        if (first < 144) {
            return MAP;
        }
        if (first < 160) {
            return ARRAY;
        }
        if (first < ROW_START) {
            return TEXT;
        }
        return first > ROW_END ? SIGNED : ROW_KIND[first - ROW_START];
    }

    /** How many bytes the number behind the first byte has. */
    private static int width(int first) {
        return first < ROW_START || first > ROW_END ? 0 : ROW_WIDTH[first - ROW_START];
    }

    private static int typeWidth(int first) {
        return kindOf(first) == EXTENSION ? 1 : 0;
    }

    // The type belongs to the head: the payload has so many bytes as the length says without it.
    private static int headLength(int first) {
        return 1 + width(first) + typeWidth(first);
    }

    /** The number, length or count of a first byte that has no number behind it. */
    private static long numberInside(int first) {
        switch (kindOf(first)) {
            case UNSIGNED:
                return first;
            case SIGNED:
                return first - 256;
            case MAP:
                return first - 128;
            case ARRAY:
                return first - 144;
            case TEXT:
                return first - 160;
            case EXTENSION:
                return 1L << (first - 212);
            default:
                return 0;
        }
    }

    // ---- what a head tells; but for lookAt, all ask for a head that lookAt has found there

    private int kindAt(int at) {
        return kindOf(storedByte(at));
    }

    private int headLengthAt(int at) {
        return headLength(storedByte(at));
    }

    private long numberAt(int at) {
        int first = storedByte(at);
        int width = width(first);
        if (width == 0) {
            return numberInside(first);
        }
        long number = readNumber(at + 1, width);
        return kindOf(first) == SIGNED ? withSign(number, width) : number;
    }

    private static long withSign(long number, int width) {
        int unused = 64 - 8 * width;
        return (number << unused) >> unused;
    }

    private int typeAt(int at) {
        return store[at + headLengthAt(at) - 1];
    }

    private int payloadLengthAt(int at) {
        return hasPayload(kindAt(at)) ? (int) numberAt(at) : 0;
    }

    private long childrenAt(int at) {
        switch (kindAt(at)) {
            case ARRAY:
                return numberAt(at);
            case MAP:
                return 2 * numberAt(at);
            default:
                return 0;
        }
    }

    private int endAt(int at) {
        return at + headLengthAt(at) + payloadLengthAt(at);
    }

    private static boolean hasPayload(int kind) {
        return kind == TEXT || kind == BINARY || kind == EXTENSION;
    }

    /** The kind of the value whose head begins there, or why it can't be given. */
    private int lookAt(int at) {
        if (at >= size) {
            return MORE;
        }
        int first = storedByte(at);
        if (first == NO_VALUE) {
            return INVALID;
        }
        int behindHead = size - at - headLength(first);
        if (behindHead < 0) {
            return MORE;
        }
        int kind = kindOf(first);
        if (kind >= TEXT && numberAt(at) > MOST_LENGTH) {
            return LARGE;
        }
        return payloadLengthAt(at) > behindHead ? MORE : kind;
    }

    /** Where the last head of the whole value that begins there stands, or why it isn't there. */
    private int lastHeadFrom(int start) {
        int at = start;
        long due = 1;
        // A head has one byte at least, so the bytes end before the counter does.
        for (int heads = 0; heads <= MOST_BYTES; heads++) {
            int answer = lookAt(at);
            if (answer < 0) {
                return answer;
            }
            due += childrenAt(at) - 1;
            if (due == 0) {
                return at;
            }
            at = endAt(at);
        }
        return MORE;
    }

    // ---- consuming

    private void consume(int lastHead) {
        given = lastHead;
        consumed = endAt(lastHead);
    }

    // A child counts from its head on, though its container stays open until all in it is consumed.
    private void countChild() {
        if (open > 0) {
            childrenLeft[open - 1]--;
        }
    }

    private void openContainer(long children) {
        if (children > 0 && open < MOST_OPEN) {
            childrenLeft[open] = children;
            open++;
        }
    }

    private void closeFinished() {
        while (open > 0 && childrenLeft[open - 1] == 0) {
            open--;
        }
    }

    // ---- choosing a form

    private static long numberOf(int kind, int low, int high) {
        boolean bothHalves = kind <= SIGNED || kind == DOUBLE;
        long lowHalf = low & LOW_HALF;
        return bothHalves ? ((long) high << 32) | lowHalf : lowHalf;
    }

    /** The first byte of the shortest head; there are never two as short of one kind. */
    private static int shortestForm(int kind, long number) {
        switch (kind) {
            case NIL:
                return 192;
            case FALSE:
                return 194;
            case TRUE:
                return 195;
            case UNSIGNED:
                return number >= 0 && number < 128 ? (int) number : 204 + unsignedStep(number);
            case SIGNED:
                return number >= -32 && number < 0 ? 256 + (int) number : 208 + signedStep(number);
            case FLOAT:
                return 202;
            case DOUBLE:
                return 203;
            case TEXT:
                return number < 32 ? 160 + (int) number : 217 + unsignedStep(number);
            case BINARY:
                return 196 + unsignedStep(number);
            case ARRAY:
                return number < 16 ? 144 + (int) number : 220 + countStep(number);
            case MAP:
                return number < 16 ? 128 + (int) number : 222 + countStep(number);
            default:
                return extensionForm(number);
        }
    }

    private static int extensionForm(long length) {
        for (int step = 0; step < 5; step++) {
            if (length == 1L << step) {
                return 212 + step;
            }
        }
        return 199 + unsignedStep(length);
    }

    /** Which of the widths 1, 2, 4, 8 is the least that holds the number. */
    private static int unsignedStep(long number) {
        if (number >>> 8 == 0) {
            return 0;
        }
        if (number >>> 16 == 0) {
            return 1;
        }
        return number >>> 32 == 0 ? 2 : 3;
    }

    private static int signedStep(long number) {
        if (number == (byte) number) {
            return 0;
        }
        if (number == (short) number) {
            return 1;
        }
        return number == (int) number ? 2 : 3;
    }

    // Counts have no form of width 1.
    private static int countStep(long count) {
        return count >>> 16 == 0 ? 0 : 1;
    }
}
