/** Promise 4: cut. */
public final class CutTest {
    private static final Check CHECK = new Check("promise 4");

    public static void main(String[] args) {
        CHECK.sentence("The last n bytes that are not consumed go", CutTest::lastOnes);
        CHECK.sentence("how many bytes there are", CutTest::howMany);
        CHECK.sentence("Illegal argument: n is below 0", CutTest::belowZero);
        CHECK.sentence("or more than are not consumed", CutTest::tooMany);
        CHECK.sentence("that are not consumed", CutTest::consumedOnesStay);
        CHECK.sentence("NEXT gives the value whose head begins at the first byte that is not consumed",
            CutTest::otherBytesInTheirPlace);
        CHECK.finish();
    }

    private static void lastOnes() {
        MessageReader reader = Make.bytes(1, 2, 3, 4);
        reader.cut(0);
        CHECK.dueBytes("cut(0)", reader, 1, 2, 3, 4);
        reader.cut(1);
        CHECK.dueBytes("cut(1)", reader, 1, 2, 3);
        reader.cut(2);
        CHECK.dueBytes("cut(2)", reader, 1);
        reader.cut(1);
        CHECK.dueBytes("cut(1) of the only one", reader);
    }

    private static void howMany() {
        MessageReader reader = Make.bytes(1, 2, 3, 4);
        reader.next();
        CHECK.due("cut(0) of four", reader.cut(0), 4);
        CHECK.due("cut(1) of four", reader.cut(1), 3);
        CHECK.due("cut(2) of three", reader.cut(2), 1);
        CHECK.due("cut(0) of consumed ones", reader.cut(0), 1);
        CHECK.due("cut(0) of none", new MessageReader().cut(0), 0);
        CHECK.due("cut(0) of 4096", Make.filled(4096).cut(0), 4096);
        CHECK.due("cut(1) of 4096", Make.filled(4096).cut(1), 4095);
        CHECK.due("cut(4095) of 4096", Make.filled(4096).cut(4095), 1);
        CHECK.due("cut(4096) of 4096", Make.filled(4096).cut(4096), 0);
    }

    private static void belowZero() {
        for (int n : new int[] {-1, -2, -4096, Make.LEAST_INT}) {
            CHECK.illegalArgument("cut(" + n + ") of none", MessageReader::new, r -> r.cut(n));
            CHECK.illegalArgument("cut(" + n + ")", () -> Make.behindText(1, 2), r -> r.cut(n));
            CHECK.illegalArgument("cut(" + n + ") of 4096", () -> Make.filled(4096), r -> r.cut(n));
        }
    }

    private static void tooMany() {
        for (int n : new int[] {3, 4, 5, 6, 4096, Make.GREATEST_INT}) {
            CHECK.illegalArgument("cut(" + n + ") of two", () -> Make.behindText(1, 2), r -> r.cut(n));
        }
        CHECK.illegalArgument("cut(1) of none", MessageReader::new, r -> r.cut(1));
        CHECK.illegalArgument("cut(1), all being consumed", () -> Make.behindText(), r -> r.cut(1));
        CHECK.illegalArgument("cut(4097) of 4096", () -> Make.filled(4096), r -> r.cut(4097));
        CHECK.illegalArgument("cut(4094) of 4093", () -> Make.filledBehindText(4096), r -> r.cut(4094));
    }

    private static void consumedOnesStay() {
        MessageReader reader = Make.behindText(1, 2);
        CHECK.due("cut(2) of two", reader.cut(2), 3);
        CHECK.dueBytes("behind it", reader, 146, 161, 77);
        CHECK.due("consumed() behind it", reader.consumed(), 3);
        CHECK.dueGiven("behind it", reader, 8, 1, 0);
        CHECK.due("payload(0) behind it", reader.payload(0), 77);
        CHECK.dueOpen("behind it", reader, 1);
        CHECK.due("cut(4093) of 4093", Make.filledBehindText(4096).cut(4093), 3);
    }

    private static void otherBytesInTheirPlace() {
        MessageReader reader = Make.behindText(193);
        CHECK.due("next() of 193", reader.next(), MessageReader.INVALID);
        reader.cut(1);
        CHECK.due("next() of none", reader.next(), MessageReader.MORE);
        reader.feed(205);
        reader.put(0x0102, 2);
        reader.cut(1);
        CHECK.due("next() of half a number", reader.next(), MessageReader.MORE);
        reader.feed(9);
        CHECK.due("next() of a number", reader.next(), 4);
        CHECK.due("its valueLow()", reader.valueLow(), 0x0109);
    }
}
