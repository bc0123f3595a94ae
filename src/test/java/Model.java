import java.math.BigInteger;
import java.util.ArrayList;
import java.util.List;

/**
 * A second reading of the document, made to be plain and not to be quick: values are read into trees, a packed
 * form is sought among all first bytes, and the open containers are found from the whole history.
 */
final class Model {
    static final int NONE = -1;
    static final int MORE = -2;
    static final int INVALID = -3;
    static final int LARGE = -4;
    static final int DEEP = -5;
    static final int MOST_BYTES = 4096;
    static final int MOST_OPEN = 100;

    /** One value: its head, and how far it goes without its children. */
    static final class Value {
        int kind;
        BigInteger number = BigInteger.ZERO;
        int type;
        int[] payload = new int[0];
        int end;

        BigInteger children() {
            return kind == 10 ? number : kind == 11 ? number.shiftLeft(1) : BigInteger.ZERO;
        }
    }

    /** Why a value can't be given. */
    static final class Refusal extends Exception {
        private static final long serialVersionUID = 1L;
        final int answer;

        Refusal(int answer) {
            this.answer = answer;
        }
    }

    private List<Integer> bytes = new ArrayList<>();
    private int consumed = 0;
    private Value given = null;
    /** The children of each value that was consumed by next(); 0 for each that was skipped. */
    private final List<BigInteger> history = new ArrayList<>();

    // ---- bytes

    int feed(int b) {
        require(b >= 0 && b <= 255);
        requireRoom(1);
        bytes.add(b);
        return bytes.size();
    }

    int put(long number, int n) {
        require(n >= 1 && n <= 8);
        requireRoom(n);
        bytes.addAll(bigEndian(BigInteger.valueOf(number), n));
        return bytes.size();
    }

    int cut(int n) {
        require(n >= 0 && n <= bytes.size() - consumed);
        bytes = new ArrayList<>(bytes.subList(0, bytes.size() - n));
        return bytes.size();
    }

    int byteAt(int i) {
        require(i >= 0 && i < bytes.size());
        return bytes.get(i);
    }

    private static void require(boolean legal) {
        if (!legal) {
            throw new IllegalArgumentException();
        }
    }

    private void requireRoom(int n) {
        if (bytes.size() + n > MOST_BYTES) {
            throw new IllegalStateException();
        }
    }

    private static List<Integer> bigEndian(BigInteger number, int n) {
        List<Integer> digits = new ArrayList<>();
        for (int i = n - 1; i >= 0; i--) {
            digits.add(number.shiftRight(8 * i).intValue() & 255);
        }
        return digits;
    }

    // ---- reading

    int next() {
        try {
            Value value = valueAt(bytes, consumed);
            if (value.children().signum() > 0 && open().size() == MOST_OPEN) {
                return DEEP;
            }
            given = value;
            consumed = value.end;
            history.add(value.children());
            return value.kind;
        } catch (Refusal refusal) {
            return refusal.answer;
        }
    }

    int skip() {
        List<Value> all = new ArrayList<>();
        try {
            int end = readTree(consumed, all);
            int length = end - consumed;
            given = all.get(all.size() - 1);
            consumed = end;
            history.add(BigInteger.ZERO);
            return length;
        } catch (Refusal refusal) {
            return refusal.answer;
        }
    }

    int kind() {
        return given == null ? NONE : given.kind;
    }

    int valueLow() {
        return given == null ? 0 : given.number.intValue();
    }

    int valueHigh() {
        if (given == null) {
            return 0;
        }
        switch (given.kind) {
            case 4:
            case 5:
            case 7:
                return given.number.shiftRight(32).intValue();
            case 12:
                return given.type;
            default:
                return 0;
        }
    }

    int payload(int i) {
        return given == null || i < 0 || i >= given.payload.length ? NONE : given.payload[i];
    }

    int level() {
        return open().size();
    }

    long remaining(int k) {
        require(k >= 0);
        List<BigInteger> open = open();
        return k >= open.size() ? NONE : open.get(open.size() - 1 - k).longValueExact();
    }

    int consumed() {
        return consumed;
    }

    int whole() {
        int count = 0;
        int at = consumed;
        try {
            while (true) {
                at = readTree(at, new ArrayList<>());
                count++;
            }
        } catch (Refusal refusal) {
            return count;
        }
    }

    /** What each open container still has, the outermost one first. */
    private List<BigInteger> open() {
        List<BigInteger> open = new ArrayList<>();
        for (BigInteger children : history) {
            int innermost = open.size() - 1;
            if (innermost >= 0) {
                open.set(innermost, open.get(innermost).subtract(BigInteger.ONE));
            }
            open.add(children);
            while (!open.isEmpty() && open.get(open.size() - 1).signum() == 0) {
                open.remove(open.size() - 1);
            }
        }
        return open;
    }

    /** Reads a value with all that is in it: where it ends. */
    private int readTree(int at, List<Value> all) throws Refusal {
        Value value = valueAt(bytes, at);
        all.add(value);
        int end = value.end;
        for (BigInteger i = BigInteger.ZERO; i.compareTo(value.children()) < 0; i = i.add(BigInteger.ONE)) {
            end = readTree(end, all);
        }
        return end;
    }

    // ---- the document's table

    private static Value valueAt(List<Integer> bytes, int at) throws Refusal {
        Value value = headAt(bytes, at);
        boolean counted = value.kind >= 8;
        if (counted && value.number.compareTo(BigInteger.valueOf(Integer.MAX_VALUE)) > 0) {
            throw new Refusal(LARGE);
        }
        if (value.kind == 8 || value.kind == 9 || value.kind == 12) {
            int length = value.number.intValueExact();
            if (length > bytes.size() - value.end) {
                throw new Refusal(MORE);
            }
            value.payload = bytes.subList(value.end, value.end + length).stream().mapToInt(b -> b).toArray();
            value.end += length;
        }
        return value;
    }

    private static Value headAt(List<Integer> bytes, int at) throws Refusal {
        if (at >= bytes.size()) {
            throw new Refusal(MORE);
        }
        int first = bytes.get(at);
        Value value = new Value();
        value.end = at + 1;
        switch (first) {
            case 192: value.kind = 1; return value;
            case 193: throw new Refusal(INVALID);
            case 194: value.kind = 2; return value;
            case 195: value.kind = 3; return value;
            case 196: return number(value, 9, bytes, 1);
            case 197: return number(value, 9, bytes, 2);
            case 198: return number(value, 9, bytes, 4);
            case 199: return type(number(value, 12, bytes, 1), bytes);
            case 200: return type(number(value, 12, bytes, 2), bytes);
            case 201: return type(number(value, 12, bytes, 4), bytes);
            case 202: return number(value, 6, bytes, 4);
            case 203: return number(value, 7, bytes, 8);
            case 204: return number(value, 4, bytes, 1);
            case 205: return number(value, 4, bytes, 2);
            case 206: return number(value, 4, bytes, 4);
            case 207: return number(value, 4, bytes, 8);
            case 208: return number(value, 5, bytes, 1);
            case 209: return number(value, 5, bytes, 2);
            case 210: return number(value, 5, bytes, 4);
            case 211: return number(value, 5, bytes, 8);
            case 212: return type(fixed(value, 12, 1), bytes);
            case 213: return type(fixed(value, 12, 2), bytes);
            case 214: return type(fixed(value, 12, 4), bytes);
            case 215: return type(fixed(value, 12, 8), bytes);
            case 216: return type(fixed(value, 12, 16), bytes);
            case 217: return number(value, 8, bytes, 1);
            case 218: return number(value, 8, bytes, 2);
            case 219: return number(value, 8, bytes, 4);
            case 220: return number(value, 10, bytes, 2);
            case 221: return number(value, 10, bytes, 4);
            case 222: return number(value, 11, bytes, 2);
            case 223: return number(value, 11, bytes, 4);
            default: return inFirstByte(value, first);
        }
    }

    private static Value inFirstByte(Value value, int first) {
        if (first <= 127) {
            return fixed(value, 4, first);
        }
        if (first <= 143) {
            return fixed(value, 11, first - 128);
        }
        if (first <= 159) {
            return fixed(value, 10, first - 144);
        }
        if (first <= 191) {
            return fixed(value, 8, first - 160);
        }
        return fixed(value, 5, first - 256);
    }

    private static Value fixed(Value value, int kind, long number) {
        value.kind = kind;
        value.number = BigInteger.valueOf(number);
        return value;
    }

    private static Value number(Value value, int kind, List<Integer> bytes, int width) throws Refusal {
        if (value.end + width > bytes.size()) {
            throw new Refusal(MORE);
        }
        byte[] digits = new byte[width];
        for (int i = 0; i < width; i++) {
            digits[i] = (byte) (int) bytes.get(value.end + i);
        }
        value.kind = kind;
        value.number = kind == 5 ? new BigInteger(digits) : new BigInteger(1, digits);
        value.end += width;
        return value;
    }

    private static Value type(Value value, List<Integer> bytes) throws Refusal {
        if (value.end >= bytes.size()) {
            throw new Refusal(MORE);
        }
        value.type = (byte) (int) bytes.get(value.end);
        value.end++;
        return value;
    }

    // ---- packing

    int pack(int kind, int low, int high) {
        require(kind >= 1 && kind <= 12);
        require(kind < 8 || low >= 0);
        require(kind != 12 || (high >= -128 && high <= 127));
        List<Integer> head = shortestHead(kind, packed(kind, low, high), high);
        requireRoom(head.size());
        bytes.addAll(head);
        return head.size();
    }

    private static BigInteger packed(int kind, int low, int high) {
        BigInteger lowHalf = BigInteger.valueOf(Integer.toUnsignedLong(low));
        switch (kind) {
            case 4:
            case 7:
                return BigInteger.valueOf(Integer.toUnsignedLong(high)).shiftLeft(32).add(lowHalf);
            case 5:
                return BigInteger.valueOf(high).shiftLeft(32).add(lowHalf);
            case 1:
            case 2:
            case 3:
                return BigInteger.ZERO;
            default:
                return lowHalf;
        }
    }

    /** Of all heads that say the same, the shortest, and of these the one with the least first byte. */
    private static List<Integer> shortestHead(int kind, BigInteger number, int type) {
        List<Integer> best = null;
        for (int first = 0; first < 256; first++) {
            for (int width : new int[] {0, 1, 2, 4, 8}) {
                List<Integer> head = new ArrayList<>();
                head.add(first);
                head.addAll(bigEndian(number, width));
                if (kind == 12) {
                    head.add(type & 255);
                }
                if (says(head, kind, number, type) && (best == null || head.size() < best.size())) {
                    best = head;
                }
            }
        }
        return best;
    }

    private static boolean says(List<Integer> head, int kind, BigInteger number, int type) {
        try {
            Value value = headAt(head, 0);
            return value.end == head.size() && value.kind == kind && value.number.equals(number)
                && (kind != 12 || value.type == type);
        } catch (Refusal refusal) {
            return false;
        }
    }
}
