/** Promises 12 to 14: level, remaining, consumed. */
public final class ContainersTest {
    private static final int NONE = MessageReader.NONE;
    private static final Check CHECK = new Check("promises 12 to 14");

    public static void main(String[] args) {
        CHECK.sentence("How many containers are OPEN", ContainersTest::noneOpen);
        CHECK.sentence("An array has so many values behind it", ContainersTest::flatArray);
        CHECK.sentence("a map two for each of its count: its CHILDREN", ContainersTest::mapInsideArray);
        CHECK.sentence("whose children are not all consumed", ContainersTest::lastChildIsContainer);
        CHECK.sentence("a value is a child of the innermost one", ContainersTest::childOfTheInnermost);
        CHECK.sentence("OPEN are containers whose children are not all consumed", ContainersTest::emptyContainers);
        CHECK.sentence("How many children the k-th open container still has", ContainersTest::largeCounts);
        CHECK.sentence("from the innermost one (0) on", ContainersTest::innermostAndOutermost);
        CHECK.sentence("NONE if there is none such", ContainersTest::noSuchContainer);
        CHECK.sentence("Illegal argument: k is below 0", ContainersTest::belowZero);
        CHECK.sentence("How many bytes are consumed", ContainersTest::consumed);
        CHECK.finish();
    }

    /** What a call answered, the bytes consumed then, and what each open container still has. */
    private static void behind(String what, MessageReader reader, long answer, long due, int consumed, long... left) {
        CHECK.due(what, answer, due);
        CHECK.due(what + ": consumed()", reader.consumed(), consumed);
        CHECK.dueOpen(what, reader, left);
    }

    private static void noneOpen() {
        CHECK.dueOpen("a new object", new MessageReader());
        CHECK.dueOpen("heads that were not given", Make.bytes(146, 145, 1));
        MessageReader reader = Make.bytes(7, 161, 9, 203, 1, 2, 3, 4, 5, 6, 7, 8, 212, 1, 2, 192);
        for (int i = 0; i < 5; i++) {
            reader.next();
            CHECK.dueOpen("behind a value that is no container", reader);
        }
    }

    private static void flatArray() {
        MessageReader reader = Make.bytes(147, 1, 162, 8, 8, 192, 5);
        behind("array of three", reader, reader.next(), 10, 1, 3);
        behind("first child", reader, reader.next(), 4, 2, 2);
        behind("second child", reader, reader.next(), 8, 5, 1);
        behind("last child", reader, reader.next(), 1, 6);
        behind("behind the array", reader, reader.next(), 4, 7);
        behind("behind all", reader, reader.next(), MessageReader.MORE, 7);
    }

    private static void mapInsideArray() {
        MessageReader reader = Make.bytes(146, 130, 1, 2, 3, 145, 4, 5);
        behind("array of two", reader, reader.next(), 10, 1, 2);
        behind("map of two", reader, reader.next(), 11, 2, 4, 1);
        behind("first key", reader, reader.next(), 4, 3, 3, 1);
        behind("first value", reader, reader.next(), 4, 4, 2, 1);
        behind("second key", reader, reader.next(), 4, 5, 1, 1);
        behind("second value, an array", reader, reader.next(), 10, 6, 1, 0, 1);
        behind("its child ends the map too", reader, reader.next(), 4, 7, 1);
        behind("last child of the outer one", reader, reader.next(), 4, 8);
    }

    private static void lastChildIsContainer() {
        MessageReader reader = Make.bytes(145, 145, 129, 146, 9, 1, 2, 3);
        behind("the first", reader, reader.next(), 10, 1, 1);
        behind("the second", reader, reader.next(), 10, 2, 1, 0);
        behind("a map", reader, reader.next(), 11, 3, 2, 0, 0);
        behind("its key, an array of two", reader, reader.next(), 10, 4, 2, 1, 0, 0);
        behind("the first in it", reader, reader.next(), 4, 5, 1, 1, 0, 0);
        behind("the last in it", reader, reader.next(), 4, 6, 1, 0, 0);
        behind("the map's value ends all", reader, reader.next(), 4, 7);
        behind("a value outside", reader, reader.next(), 4, 8);
    }

    private static void childOfTheInnermost() {
        MessageReader reader = Make.bytes(147, 146, 7, 8, 9, 10);
        reader.next();
        reader.next();
        behind("in the inner one", reader, reader.next(), 4, 3, 1, 2);
        behind("the inner one's last", reader, reader.next(), 4, 4, 2);
        behind("in the outer one", reader, reader.next(), 4, 5, 1);
        behind("the outer one's last", reader, reader.next(), 4, 6);
    }

    private static void emptyContainers() {
        MessageReader reader = Make.bytes(144, 128, 147, 144, 128, 220, 0, 0, 145, 145, 128);
        behind("empty array", reader, reader.next(), 10, 1);
        behind("empty map", reader, reader.next(), 11, 2);
        behind("array of three", reader, reader.next(), 10, 3, 3);
        behind("empty array inside", reader, reader.next(), 10, 4, 2);
        behind("empty map inside", reader, reader.next(), 11, 5, 1);
        behind("empty array as last child", reader, reader.next(), 10, 8);
        behind("array of one", reader, reader.next(), 10, 9, 1);
        behind("array of one in it", reader, reader.next(), 10, 10, 1, 0);
        behind("empty map as last child of both", reader, reader.next(), 11, 11);
    }

    private static void largeCounts() {
        MessageReader reader = Make.bytes(223, 127, 255, 255, 255, 221, 127, 255, 255, 255, 1, 222, 255, 255);
        behind("largest map", reader, reader.next(), 11, 5, 4294967294L);
        behind("largest array in it", reader, reader.next(), 10, 10, 2147483647L, 4294967293L);
        behind("a child", reader, reader.next(), 4, 11, 2147483646L, 4294967293L);
        behind("a map of 65535", reader, reader.next(), 11, 14, 131070L, 2147483645L, 4294967293L);
        reader = Make.bytes(223, 64, 0, 0, 0, 223, 63, 255, 255, 255);
        behind("a map of 2^30", reader, reader.next(), 11, 5, 2147483648L);
        behind("a map of 2^30 - 1 in it", reader, reader.next(), 11, 10, 2147483646L, 2147483647L);
        reader = Make.bytes(143, 159);
        behind("a map of 15", reader, reader.next(), 11, 1, 30);
        behind("an array of 15 in it", reader, reader.next(), 10, 2, 15, 29);
    }

    /** The arrays have 1 + (k mod 15) children, so that each is told from its neighbours. */
    private static void innermostAndOutermost() {
        MessageReader reader = new MessageReader();
        for (int k = 0; k < 100; k++) {
            reader.feed(145 + k % 15);
            reader.next();
        }
        CHECK.due("level()", reader.level(), 100);
        for (int k = 0; k < 100; k++) {
            int outer = 99 - k;
            CHECK.due("remaining(" + k + ") of 100", reader.remaining(k), k == 0 ? 1 + outer % 15 : outer % 15);
        }
        CHECK.due("remaining(100) of 100", reader.remaining(100), NONE);
    }

    private static void noSuchContainer() {
        for (int k : new int[] {1, 2, 99, 100, 101, Make.GREATEST_INT}) {
            CHECK.due("remaining(" + k + ") of one", Make.behindText().remaining(k), NONE);
            CHECK.due("remaining(" + k + ") of none", new MessageReader().remaining(k), NONE);
        }
        CHECK.due("remaining(0) of none", new MessageReader().remaining(0), NONE);
        CHECK.due("remaining(99) of 99", Make.nested(99).remaining(99), NONE);
        CHECK.due("remaining(98) of 99", Make.nested(99).remaining(98), 0);
        CHECK.due("remaining(99) of 100", Make.nested(100).remaining(99), 0);
        CHECK.due("remaining(100) of 100", Make.nested(100).remaining(100), NONE);
        MessageReader closed = Make.nested(100, 1);
        closed.next();
        CHECK.dueOpen("when all 100 are closed", closed);
    }

    private static void belowZero() {
        for (int k : new int[] {-1, -2, -100, Make.LEAST_INT}) {
            CHECK.illegalArgument("remaining(" + k + ") of none", MessageReader::new, r -> r.remaining(k));
            CHECK.illegalArgument("remaining(" + k + ") of one", () -> Make.behindText(1), r -> r.remaining(k));
            CHECK.illegalArgument("remaining(" + k + ") of 100", () -> Make.nested(100), r -> r.remaining(k));
        }
    }

    private static void consumed() {
        MessageReader reader = Make.bytes(1, 162, 8, 8, 145, 146, 1, 2, 193);
        CHECK.due("consumed() before the first", reader.consumed(), 0);
        reader.next();
        CHECK.due("behind a number", reader.consumed(), 1);
        reader.next();
        CHECK.due("behind a text", reader.consumed(), 4);
        reader.next();
        CHECK.due("behind an array's head", reader.consumed(), 5);
        reader.skip();
        CHECK.due("behind a skip()", reader.consumed(), 8);
        reader.next();
        reader.skip();
        reader.whole();
        CHECK.due("behind calls that consumed none", reader.consumed(), 8);
        reader.cut(1);
        reader.feed(1);
        CHECK.due("behind cut() and feed()", reader.consumed(), 8);
        MessageReader all = Make.longestText();
        all.skip();
        CHECK.due("all 4096", all.consumed(), 4096);
    }
}
