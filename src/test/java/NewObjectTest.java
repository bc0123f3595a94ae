/** Promise 1, and what the others say of an object without bytes. */
public final class NewObjectTest {
    private static final Check CHECK = new Check("promise 1");

    public static void main(String[] args) {
        CHECK.sentence("No bytes.", NewObjectTest::noBytes);
        CHECK.sentence("4096 at most, of which the first ones are CONSUMED", NewObjectTest::noneConsumed);
        CHECK.sentence("MORE: what there is ends before", NewObjectTest::nothingToRead);
        CHECK.sentence("NONE before the first one", NewObjectTest::nothingGiven);
        CHECK.sentence("OPEN are containers whose children are not all consumed", NewObjectTest::noneOpen);
        CHECK.sentence("how many there are", NewObjectTest::firstBytes);
        CHECK.sentence("A new object", NewObjectTest::besideAnother);
        CHECK.finish();
    }

    private static void noBytes() {
        CHECK.due("cut(0)", new MessageReader().cut(0), 0);
        CHECK.illegalArgument("cut(1)", MessageReader::new, r -> r.cut(1));
        CHECK.illegalArgument("cut(-1)", MessageReader::new, r -> r.cut(-1));
        CHECK.illegalArgument("byteAt(0)", MessageReader::new, r -> r.byteAt(0));
        CHECK.illegalArgument("byteAt(-1)", MessageReader::new, r -> r.byteAt(-1));
        CHECK.illegalArgument("byteAt(4095)", MessageReader::new, r -> r.byteAt(4095));
    }

    private static void noneConsumed() {
        CHECK.due("consumed()", new MessageReader().consumed(), 0);
    }

    private static void nothingToRead() {
        CHECK.changesNothing("next()", MessageReader.MORE, MessageReader::new, MessageReader::next);
        CHECK.changesNothing("skip()", MessageReader.MORE, MessageReader::new, MessageReader::skip);
        CHECK.changesNothing("whole()", 0, MessageReader::new, MessageReader::whole);
    }

    private static void nothingGiven() {
        CHECK.due("kind()", new MessageReader().kind(), MessageReader.NONE);
        CHECK.due("valueLow()", new MessageReader().valueLow(), 0);
        CHECK.due("valueHigh()", new MessageReader().valueHigh(), 0);
        for (int i : new int[] {0, 1, -1, Make.LEAST_INT, Make.GREATEST_INT}) {
            CHECK.due("payload(" + i + ")", new MessageReader().payload(i), MessageReader.NONE);
        }
    }

    private static void noneOpen() {
        CHECK.due("level()", new MessageReader().level(), 0);
        for (int k : new int[] {0, 1, 99, 100, Make.GREATEST_INT}) {
            CHECK.due("remaining(" + k + ")", new MessageReader().remaining(k), MessageReader.NONE);
        }
        CHECK.illegalArgument("remaining(-1)", MessageReader::new, r -> r.remaining(-1));
    }

    private static void firstBytes() {
        CHECK.due("feed(5)", new MessageReader().feed(5), 1);
        for (int n = 1; n <= 8; n++) {
            CHECK.due("put(5, " + n + ")", new MessageReader().put(5, n), n);
        }
        CHECK.due("pack(1, 0, 0)", new MessageReader().pack(1, 0, 0), 1);
        CHECK.due("pack(7, 0, 0)", new MessageReader().pack(7, 0, 0), 9);
    }

    /** No object has anything of another one. */
    private static void besideAnother() {
        MessageReader other = Make.behindText(1, 2, 3);
        CHECK.due("a new one", Check.seen(new MessageReader()),
            "size 0 consumed 0 kind -1 value 0:0 payload -1 -1 -1 -1 level 0 remaining -1 -1 -1 -1 whole 0 bytes");
        CHECK.due("the other one", Check.seen(other), Check.seen(Make.behindText(1, 2, 3)));
    }
}
