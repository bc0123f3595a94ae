/** Promise 5: byteAt. */
public final class ByteAtTest {
    private static final Check CHECK = new Check("promise 5");

    public static void main(String[] args) {
        CHECK.sentence("A byte that is there", ByteAtTest::there);
        CHECK.sentence("of which the first ones are CONSUMED", ByteAtTest::consumedOnes);
        CHECK.sentence("Illegal argument: there is none such", ByteAtTest::noneSuch);
        CHECK.sentence("The last n bytes that are not consumed go", ByteAtTest::cutOnes);
        CHECK.finish();
    }

    private static void there() {
        CHECK.due("the only one, 0", Make.bytes(0).byteAt(0), 0);
        CHECK.due("the only one, 127", Make.bytes(127).byteAt(0), 127);
        CHECK.due("the only one, 128", Make.bytes(128).byteAt(0), 128);
        CHECK.due("the only one, 255", Make.bytes(255).byteAt(0), 255);
        MessageReader reader = Make.fill(Make.bytes(7), 4095);
        reader.feed(8);
        CHECK.due("byteAt(0) of 4096", reader.byteAt(0), 7);
        CHECK.due("byteAt(1) of 4096", reader.byteAt(1), 203);
        CHECK.due("byteAt(4094) of 4096", reader.byteAt(4094), 255);
        CHECK.due("byteAt(4095) of 4096", reader.byteAt(4095), 8);
    }

    private static void consumedOnes() {
        MessageReader reader = Make.behindText(5, 6);
        CHECK.due("the first consumed one", reader.byteAt(0), 146);
        CHECK.due("the last consumed one", reader.byteAt(2), 77);
        CHECK.due("the first one that is not", reader.byteAt(3), 5);
        CHECK.due("the last one that is not", reader.byteAt(4), 6);
    }

    private static void noneSuch() {
        for (int i : new int[] {-1, 4, 5, 4095, 4096, -4096, Make.LEAST_INT, Make.GREATEST_INT}) {
            CHECK.illegalArgument("byteAt(" + i + ") of four", () -> Make.behindText(1), r -> r.byteAt(i));
        }
        CHECK.illegalArgument("byteAt(0) of none", MessageReader::new, r -> r.byteAt(0));
        CHECK.illegalArgument("byteAt(-1) of 4096", () -> Make.filled(4096), r -> r.byteAt(-1));
        CHECK.illegalArgument("byteAt(4096) of 4096", () -> Make.filled(4096), r -> r.byteAt(4096));
        CHECK.illegalArgument("byteAt(4095) of 4095", () -> Make.filled(4095), r -> r.byteAt(4095));
    }

    private static void cutOnes() {
        CHECK.due("byteAt(1), the last one being cut", oneOfThreeCut().byteAt(1), 2);
        CHECK.illegalArgument("byteAt() of a cut one", ByteAtTest::oneOfThreeCut, r -> r.byteAt(2));
    }

    private static MessageReader oneOfThreeCut() {
        MessageReader reader = Make.bytes(1, 2, 3);
        reader.cut(1);
        return reader;
    }
}
