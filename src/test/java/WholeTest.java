import java.util.Arrays;

/** Promise 15: whole. */
public final class WholeTest {
    private static final Check CHECK = new Check("promise 15");

    public static void main(String[] args) {
        CHECK.sentence("How many whole values", WholeTest::none);
        CHECK.sentence("begin one behind the other", WholeTest::several);
        CHECK.sentence("at the first byte that is not consumed", WholeTest::behindConsumedOnes);
        CHECK.sentence("up to what is not there wholly", WholeTest::upToMore);
        CHECK.sentence("is INVALID", WholeTest::upToInvalid);
        CHECK.sentence("or LARGE", WholeTest::upToLarge);
        CHECK.sentence("nothing is consumed", WholeTest::nothingIsConsumed);
        CHECK.sentence("How deep it goes counts for nothing", WholeTest::deepValues);
        CHECK.sentence("above 2^31 - 1", WholeTest::largestCounts);
        CHECK.sentence("4096 at most", WholeTest::many);
        CHECK.finish();
    }

    private static void whole(int due, int... bytes) {
        String what = "whole() of " + Arrays.toString(bytes);
        CHECK.changesNothing(what, due, () -> Make.bytes(bytes), MessageReader::whole);
        CHECK.changesNothing(what + " in an array", due, () -> Make.behindText(bytes), MessageReader::whole);
    }

    private static void none() {
        whole(0);
        whole(0, 193);
        whole(0, 161);
        whole(0, 146, 1);
        whole(0, 205, 1);
        whole(0, 129, 1);
        whole(0, 193, 1, 2);
        whole(0, 198, 128, 0, 0, 0, 1, 2);
        whole(0, 162, 1);
        whole(0, 221, 127, 255, 255, 255, 1, 2, 3);
    }

    private static void several() {
        whole(1, 7);
        whole(1, 146, 1, 2);
        whole(1, 144);
        whole(2, 7, 192);
        whole(2, 144, 128);
        whole(2, 161, 193, 196, 0);
        whole(4, 1, 161, 193, 146, 1, 145, 2, 192);
        whole(3, 203, 1, 2, 3, 4, 5, 6, 7, 8, 212, 1, 2, 199, 0, 1);
        whole(3, 130, 1, 2, 3, 4, 129, 144, 145, 5, 9);
    }

    private static void behindConsumedOnes() {
        MessageReader reader = Make.bytes(146, 1, 145, 2, 3, 4);
        CHECK.due("an array and two numbers", reader.whole(), 3);
        reader.next();
        CHECK.due("its children and what is behind it", reader.whole(), 4);
        reader.next();
        CHECK.due("behind its first child", reader.whole(), 3);
        reader.next();
        CHECK.due("inside its second child", reader.whole(), 3);
        reader.skip();
        CHECK.due("behind it", reader.whole(), 2);
        reader.skip();
        reader.skip();
        CHECK.due("behind all", reader.whole(), 0);
    }

    private static void upToMore() {
        whole(2, 1, 2, 162, 3);
        whole(2, 1, 2, 161);
        whole(2, 1, 2, 205, 3);
        whole(2, 1, 2, 147, 3, 4);
        whole(2, 1, 2, 129, 3);
        whole(2, 1, 2, 145, 145);
        whole(2, 1, 2, 199, 0);
        whole(1, 1, 201, 128, 0, 0, 0);
        whole(2, 1, 2, 198, 127, 255, 255, 255, 3, 4);
    }

    private static void upToInvalid() {
        whole(2, 1, 2, 193);
        whole(2, 1, 2, 193, 3, 4);
        whole(2, 1, 2, 146, 3, 193, 4);
        whole(1, 1, 146, 193, 4, 5);
        whole(1, 1, 145, 145, 193, 5);
    }

    private static void upToLarge() {
        whole(2, 1, 2, 221, 128, 0, 0, 0, 4);
        whole(2, 1, 2, 223, 255, 255, 255, 255, 4);
        whole(2, 1, 2, 198, 128, 0, 0, 0, 4);
        whole(2, 1, 2, 219, 128, 0, 0, 0, 4);
        whole(2, 1, 2, 201, 128, 0, 0, 0, 4, 5);
        whole(2, 1, 2, 146, 3, 219, 128, 0, 0, 0, 4);
        whole(1, 1, 146, 219, 128, 0, 0, 0, 4, 5);
    }

    private static void nothingIsConsumed() {
        MessageReader reader = Make.bytes(7, 146, 1, 2, 192);
        CHECK.due("whole()", reader.whole(), 3);
        CHECK.due("whole() again", reader.whole(), 3);
        CHECK.due("consumed()", reader.consumed(), 0);
        CHECK.dueGiven("nothing is given", reader, MessageReader.NONE, 0, 0);
        CHECK.dueOpen("nothing is open", reader);
        CHECK.due("next()", reader.next(), 4);
    }

    private static void deepValues() {
        MessageReader reader = new MessageReader();
        for (int i = 0; i < 30; i++) {
            reader.put(0x9191919191919191L, 8);
        }
        CHECK.due("240 arrays without the innermost child", reader.whole(), 0);
        reader.put(0x0708, 2);
        CHECK.due("240 arrays and a number", reader.whole(), 2);
        CHECK.due("arrays with 100 open", Make.nested(100, 145, 145, 1, 129, 2, 3, 144).whole(), 3);
    }

    /** The children due are 2^32 and a few, which 32 bits would take for the few. */
    private static void largestCounts() {
        for (int count = 1; count <= 15; count++) {
            whole(1, 9, 144 + count, 221, 127, 255, 255, 255, 221, 127, 255, 255, 255, 1, 2, 3, 4, 5, 6, 7, 8);
            whole(1, 9, 144 + count, 223, 127, 255, 255, 255, 1, 2, 3, 4, 5, 6, 7, 8);
        }
    }

    private static void many() {
        MessageReader numbers = new MessageReader();
        for (int i = 0; i < 511; i++) {
            numbers.put(0, 8);
        }
        CHECK.due("4088 numbers", numbers.whole(), 4088);
        CHECK.due("455 floats and a number", Make.filled(4096).whole(), 456);
        CHECK.due("454 floats and eight numbers", Make.filled(4094).whole(), 462);
        CHECK.due("the longest text", Make.longestText().whole(), 1);
        MessageReader read = Make.longestText();
        read.next();
        CHECK.due("behind the longest text", read.whole(), 0);
    }
}
