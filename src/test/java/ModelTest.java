import java.util.Map;
import java.util.Random;
import java.util.TreeMap;
import java.util.function.LongSupplier;

/** All promises: seeded runs of calls, each answered by the reader and by the model, with the same seeds each time. */
public final class ModelTest {
    private static final int RUNS = 3000;
    private static final int CALLS = 500;
    private static final int ARGUMENT = -1001;
    private static final int STATE = -1002;
    private static final Check CHECK = new Check("all promises");
    /** How often a call answered so, for those answers that stand at an edge: the runs must touch each of them. */
    private static final Map<String, Integer> MET = new TreeMap<>();
    private static final String[] EDGES = {
        "next -2", "next -3", "next -4", "next -5", "skip -2", "skip -3", "skip -4", "kind -1", "payload -1",
        "remaining -1", "whole 0", "level 100", "level 0", "consumed 0",
        "feed " + ARGUMENT, "put " + ARGUMENT, "cut " + ARGUMENT, "byteAt " + ARGUMENT, "remaining " + ARGUMENT,
        "pack " + ARGUMENT, "feed " + STATE, "put " + STATE, "pack " + STATE, "feed 4096", "put 4096",
    };

    private final Random random;
    private final String name;
    private final MessageReader reader = new MessageReader();
    private final Model model = new Model();
    private int calls = 0;

    private ModelTest(int seed) {
        random = new Random(seed);
        name = "run " + seed + ": ";
    }

    public static void main(String[] args) {
        CHECK.sentence("all sentences", () -> {
            for (int seed = 0; seed < RUNS; seed++) {
                new ModelTest(seed).run();
            }
        });
        CHECK.sentence("MORE, INVALID, LARGE, DEEP; illegal argument, illegal state", ModelTest::edgesWereMet);
        CHECK.finish();
    }

    private static void edgesWereMet() {
        for (String edge : EDGES) {
            int met = MET.getOrDefault(edge, 0);
            CHECK.due("was '" + edge + "' met twenty times (it was " + met + " times)?", met >= 20 ? 1 : 0, 1);
        }
    }

    private void run() {
        int most = 20 + random.nextInt(CALLS - 20);
        int style = random.nextInt(5);
        if (style == 4) {
            nearlyFull();
            most = CALLS;
        }
        while (calls < most) {
            change(style);
            if (random.nextInt(3) == 0) {
                look();
            }
        }
    }

    /** A few bytes before 4096, inside an array or not, so that what comes then often has no room. */
    private void nearlyFull() {
        if (random.nextBoolean()) {
            feed(145 + random.nextInt(15));
            same("next()", reader::next, model::next);
        }
        int size = 4060 + random.nextInt(37);
        while (model.cut(0) + 9 <= size) {
            same("pack(7, 5, -5)", () -> reader.pack(7, 5, -5), this::appendFloat);
        }
    }

    /** The model seeks a packed form among all, which is too slow for so many of them. */
    private int appendFloat() {
        model.feed(203);
        model.put(0xFFFFFFFB00000005L, 8);
        return 9;
    }

    private void same(String call, LongSupplier got, LongSupplier due) {
        calls++;
        long answer = answer(got);
        CHECK.due(name + call, answer, answer(due));
        MET.merge(call.substring(0, call.indexOf('(')) + " " + answer, 1, Integer::sum);
    }

    private static long answer(LongSupplier call) {
        try {
            return call.getAsLong();
        } catch (IllegalArgumentException e) {
            return ARGUMENT;
        } catch (IllegalStateException e) {
            return STATE;
        }
    }

    private void change(int style) {
        int choice = random.nextInt(20);
        if (choice < 5) {
            same("next()", reader::next, model::next);
        } else if (choice < 7) {
            same("skip()", reader::skip, model::skip);
        } else if (choice < 8) {
            cut();
        } else if (style == 0) {
            pack();
        } else if (style == 1) {
            feed(random.nextInt(64) == 0 ? random.nextInt(400) - 70 : headByte());
        } else if (style == 2) {
            nest();
        } else {
            anyBytes();
        }
    }

    private void anyBytes() {
        switch (random.nextInt(4)) {
            case 0:
                pack();
                break;
            case 1:
                put(random.nextLong(), random.nextInt(40) == 0 ? random.nextInt(20) - 5 : 1 + random.nextInt(8));
                break;
            case 2:
                put(random.nextInt(5), 1 + random.nextInt(8));
                break;
            default:
                feed(headByte());
                break;
        }
    }

    private void nest() {
        int small = random.nextInt(8);
        if (small < 6) {
            long arrays = random.nextBoolean() ? 0x9192919291929192L : 0x8191819181918191L;
            put(arrays, 1 + random.nextInt(8));
        } else {
            feed(random.nextBoolean() ? 192 : headByte());
        }
        for (int i = random.nextInt(9); i > 0; i--) {
            same("next()", reader::next, model::next);
        }
    }

    private int headByte() {
        switch (random.nextInt(6)) {
            case 0:
                return 192 + random.nextInt(32);
            case 1:
                return 144 + random.nextInt(4);
            case 2:
                return 128 + random.nextInt(4);
            case 3:
                return 160 + random.nextInt(4);
            case 4:
                return random.nextInt(4);
            default:
                return random.nextInt(256);
        }
    }

    private void feed(int b) {
        same("feed(" + b + ")", () -> reader.feed(b), () -> model.feed(b));
    }

    private void put(long number, int n) {
        same("put(" + number + ", " + n + ")", () -> reader.put(number, n), () -> model.put(number, n));
    }

    private void cut() {
        int n = random.nextInt(8) == 0 ? edge() : random.nextInt(6);
        same("cut(" + n + ")", () -> reader.cut(n), () -> model.cut(n));
    }

    private void pack() {
        int kind = random.nextInt(30) == 0 ? edge() : 1 + random.nextInt(12);
        int low = random.nextInt(3) == 0 ? random.nextInt(20) : edge();
        int high = random.nextBoolean() ? (random.nextBoolean() ? 0 : -1) : edge();
        same("pack(" + kind + ", " + low + ", " + high + ")",
            () -> reader.pack(kind, low, high), () -> model.pack(kind, low, high));
    }

    /** A number at or beside an edge: a power of two, its negative, or any. */
    private int edge() {
        int power = (1 << random.nextInt(32)) + random.nextInt(3) - 1;
        switch (random.nextInt(4)) {
            case 0:
                return -power;
            case 1:
                return random.nextInt();
            default:
                return power;
        }
    }

    private void look() {
        same("kind()", reader::kind, model::kind);
        same("valueLow()", reader::valueLow, model::valueLow);
        same("valueHigh()", reader::valueHigh, model::valueHigh);
        same("level()", reader::level, model::level);
        same("consumed()", reader::consumed, model::consumed);
        same("whole()", reader::whole, model::whole);
        int k = random.nextInt(12) == 0 ? edge() : random.nextInt(5);
        same("remaining(" + k + ")", () -> reader.remaining(k), () -> model.remaining(k));
        same("payload(" + k + ")", () -> reader.payload(k), () -> model.payload(k));
        int i = random.nextInt(12) == 0 ? edge() : random.nextInt(1 + model.cut(0));
        same("byteAt(" + i + ")", () -> reader.byteAt(i), () -> model.byteAt(i));
    }
}
