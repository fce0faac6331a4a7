/** Promises 1 (a new object), 2 (feed), 3 (end) and 16 (back). */
public final class TapeTest {
    private static final Due DUE = new Due("TapeTest");

    public static void main(String[] args) {
        newObject();
        newObjectsAreApart();
        feed();
        feedAtTheLimit();
        end();
        endOfWrongLengths();
        back();
        backAtTheLimit();
        DUE.finish();
    }

    private static void newObject() {
        PackColumns x = new PackColumns();
        DUE.same("new: octet(-1)", x.octet(-1), 0);
        DUE.noSuchElement("new: octet(0)", () -> x.octet(0));
        DUE.noSuchElement("new: code(0)", () -> x.code(0));
        DUE.noSuchElement("new: number(0)", () -> x.number(0));
        DUE.same("new: back()", x.back(), 0);
        DUE.same("new: end(0)", x.end(0), 0);
        DUE.illegalArgument("new: end(1)", () -> x.end(1));
        DUE.same("new: checksum(0)", x.checksum(0), 0);
        DUE.same("new: text()", x.text(), 0);
        DUE.same("new: numbers()", x.numbers(), 0);
        DUE.illegalArgument("new: unpack()", x::unpack);
    }

    private static void newObjectsAreApart() {
        PackColumns x = Put.withTape(1, 2, 3);
        x.varint(9);
        PackColumns y = new PackColumns();
        DUE.same("another: end(0)", y.end(0), 0);
        DUE.same("another: octet(-1)", y.octet(-1), 0);
        DUE.same("the first: back()", x.back(), 4);
    }

    private static void feed() {
        PackColumns x = new PackColumns();
        x.feed(0x01020304, 0x05060708, 0x090a0b0c, 0xfdfeff00, -1);
        DUE.same("feed: back()", x.back(), 20);
        String first = "01 02 03 04 05 06 07 08 09 0a 0b 0c fd fe ff 00 ff ff ff ff";
        DUE.same("feed: the bytes", Put.tapeText(x), first);
        x.back();
        x.feed(0x80000000, 0x7fffffff, 0, 0x11, 0x22);
        String second = "80 00 00 00 7f ff ff ff 00 00 00 00 00 00 00 11 00 00 00 22";
        DUE.same("feed behind: the bytes", Put.tapeText(x), first + " " + second);
    }

    private static void feedAtTheLimit() {
        PackColumns full = Put.withZerosTape(32748);
        full.feed(1, 2, 3, 4, 5);
        DUE.same("feed to the limit: back()", full.back(), 32768);
        DUE.illegalState("feed to a full tape", () -> feed(full));
        DUE.same("feed to a full tape: back()", full.back(), 32768);

        PackColumns close = Put.withZerosTape(32749);
        DUE.illegalState("feed one over", () -> feed(close));
        DUE.same("feed one over: the tape stays", close.back(), 32749);
        DUE.same("feed one over: end(32748)", close.end(32748), 1);
        close.feed(0, 0, 0, 0, 0);
        DUE.same("feed after the cut: back()", close.back(), 32768);
    }

    private static Object feed(PackColumns x) {
        x.feed(1, 2, 3, 4, 5);
        return null;
    }

    private static void end() {
        PackColumns x = new PackColumns();
        x.feed(0x01020304, 0x05060708, 0x090a0b0c, 0x0d0e0f10, 0x11121314);
        DUE.same("end(20)", x.end(20), 0);
        DUE.same("end(5)", x.end(5), 15);
        DUE.same("end(5) again", x.end(5), 0);
        DUE.same("end(5): the bytes", Put.tapeText(x), "01 02 03 04 05");
        x.back();
        x.feed(0x21222324, 0, 0, 0, 0);
        DUE.same("end(8)", x.end(8), 17);
        DUE.same("end(8): the bytes", Put.tapeText(x), "01 02 03 04 05 21 22 23");
        x.back();
        DUE.same("end(0)", x.end(0), 8);
        DUE.same("end(0) of none", x.end(0), 0);
        x.end(0);
        DUE.same("end leaves out alone", outAfterEnd(), "07");
    }

    private static String outAfterEnd() {
        PackColumns x = Put.withOut(7);
        x.feed(1, 2, 3, 4, 5);
        x.end(3);
        return Put.outText(x);
    }

    private static void endOfWrongLengths() {
        PackColumns x = Put.withTape(1, 2, 3, 4, 5);
        DUE.illegalArgument("end(6) of 5", () -> x.end(6));
        DUE.illegalArgument("end(-1)", () -> x.end(-1));
        DUE.illegalArgument("end(least)", () -> x.end(Integer.MIN_VALUE));
        DUE.illegalArgument("end(greatest)", () -> x.end(Integer.MAX_VALUE));
        DUE.same("end of wrong lengths: the bytes", Put.tapeText(x), "01 02 03 04 05");
    }

    private static void back() {
        PackColumns x = new PackColumns();
        DUE.same("back of nothing", x.back(), 0);
        x.varint(300);
        DUE.same("back to an empty tape", x.back(), 2);
        DUE.same("back: out is empty", x.octet(-1), 0);
        DUE.noSuchElement("back: octet(0)", () -> x.octet(0));
        x.letter(65);
        x.letter(66);
        x.letter(67);
        DUE.same("back behind the tape", x.back(), 5);
        DUE.same("back: the bytes", Put.tapeText(x), "ac 02 41 42 43");
    }

    private static void backAtTheLimit() {
        PackColumns x = Put.withZerosTape(32766);
        x.varint(300);
        DUE.same("back to the limit", x.back(), 32768);
        DUE.same("back of nothing to a full tape", x.back(), 32768);
        x.letter(65);
        DUE.illegalState("back one over", x::back);
        DUE.same("back one over: out stays", Put.outText(x), "41");
        DUE.same("back one over: the tape stays", x.end(32767), 1);
        DUE.same("back after the cut", x.back(), 32768);

        PackColumns y = Put.withZerosOut(32768);
        DUE.same("back of a full out", y.back(), 32768);
    }
}
