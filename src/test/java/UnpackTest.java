import java.util.Arrays;

/** Promise 5 (unpack). */
public final class UnpackTest {
    private static final Due DUE = new Due("UnpackTest");

    public static void main(String[] args) {
        plainPieces();
        pointers();
        pointersOtherThanPacks();
        longest();
        wrongCount();
        wrongPlainPieces();
        wrongPointers();
        wrongVarints();
        state();
        everyPrefixIsWrong();
        DUE.finish();
    }

    private static void good(String what, byte[] tape, byte[] want) {
        PackColumns x = Put.withTape(tape);
        DUE.same(what + ": the length", Due.answer(x::unpack), want.length);
        DUE.same(what, Put.outText(x), Put.text(want));
        DUE.same(what + ": the tape is empty", x.end(0), 0);
    }

    private static void wrong(String what, int... tape) {
        wrong(what, Put.bytes(tape));
    }

    private static void wrong(String what, byte[] tape) {
        PackColumns x = Put.withOut(90, 91, 92);
        Put.tape(x, 0, tape);
        DUE.illegalArgument(what, x::unpack);
        DUE.same(what + ": out stays", Put.outText(x), "5a 5b 5c");
        DUE.same(what + ": the tape is empty", x.end(0), 0);
    }

    private static void plainPieces() {
        good("nothing packed", Put.bytes(0), Put.bytes());
        good("one byte", Put.bytes(1, 2, 255), Put.bytes(255));
        good("three bytes", Put.bytes(3, 6, 1, 2, 3), Put.bytes(1, 2, 3));
        good("three pieces", Put.bytes(3, 2, 1, 2, 2, 2, 3), Put.bytes(1, 2, 3));
        good("64 bytes", Put.join(Put.bytes(64, 128, 1), Put.noise(1, 64)), Put.noise(1, 64));
        byte[] many = Put.noise(2, 400);
        good("400 bytes", Put.join(Put.varint(400), Put.varint(800), many), many);
    }

    private static void pointers() {
        good("into itself", Put.bytes(5, 2, 7, 9, 1), Put.repeat(7, 5));
        good("two in turn", Put.bytes(7, 4, 1, 2, 11, 2), Put.bytes(1, 2, 1, 2, 1, 2, 1));
        good("all that is made", Put.bytes(8, 8, 1, 2, 3, 4, 9, 4), Put.bytes(1, 2, 3, 4, 1, 2, 3, 4));
        good("a plain piece behind", Put.bytes(6, 2, 7, 9, 1, 2, 8), Put.bytes(7, 7, 7, 7, 7, 8));
        good("a pointer behind a pointer", Put.bytes(13, 2, 7, 9, 1, 2, 8, 9, 3, 6, 1, 2, 3),
            Put.bytes(7, 7, 7, 7, 7, 8, 7, 7, 8, 7, 1, 2, 3));
    }

    private static void pointersOtherThanPacks() {
        good("farther than the nearest", Put.bytes(7, 6, 7, 7, 7, 9, 3), Put.repeat(7, 7));
        good("shorter than the longest", Put.bytes(9, 2, 7, 9, 1, 9, 1), Put.repeat(7, 9));
        good("longer than 64", Put.join(Put.varint(66), Put.bytes(2, 7), Put.varint(131), Put.bytes(1)),
            Put.repeat(7, 66));
        good("plain where pack would point", Put.join(Put.bytes(9, 18), Put.repeat(7, 9)), Put.repeat(7, 9));

        byte[] base = Put.noise(3, 5000);
        byte[] tape = Put.join(Put.varint(5010), Put.varint(10000), base, Put.varint(21), Put.varint(5000));
        PackColumns x = Put.withTape(tape);
        DUE.same("farther than 4095: the length", Due.answer(x::unpack), 5010);
        for (int k = 0; k < 10; k++) {
            DUE.same("farther than 4095: octet", x.octet(5000 + k), base[k] & 255);
        }
    }

    private static void longest() {
        byte[] full = Put.join(Put.varint(32768), Put.bytes(2, 7), Put.varint(2 * 32767 + 1), Put.bytes(1));
        PackColumns x = Put.withTape(full);
        DUE.same("32768 of one: the length", Due.answer(x::unpack), 32768);
        DUE.same("32768 of one: octet(-1)", x.octet(-1), 32768);
        DUE.same("32768 of one: the last", x.octet(32767), 7);
        DUE.same("32768 of one: the checksum", x.checksum(32768), Put.crc(Put.repeat(7, 32768)));
        wrong("32769 of one", Put.join(Put.varint(32769), Put.bytes(2, 7), Put.varint(2 * 32768 + 1), Put.bytes(1)));
        wrong("32769 and no piece", Put.varint(32769));
        wrong("the greatest count", Put.join(Put.varint(Integer.MAX_VALUE), Put.bytes(2, 7)));
    }

    private static void wrongCount() {
        wrong("an empty tape");
        wrong("nothing packed, and more", 0, 0);
        wrong("nothing packed, and a piece", 0, 2, 1);
        wrong("one, no piece", 1);
        wrong("two, one made", 2, 2, 1);
        wrong("one, two made", 1, 4, 1, 2);
        wrong("one, two pieces", 1, 2, 1, 2, 2);
        wrong("more behind", 1, 2, 1, 0);
        wrong("five, six made", 5, 2, 7, 11, 1);
        wrong("seven, five made", 7, 2, 7, 9, 1);
    }

    private static void wrongPlainPieces() {
        wrong("a plain piece of none", 1, 0, 2, 1);
        wrong("a plain piece of none at the end", 1, 2, 1, 0);
        wrong("a plain piece of none alone", 1, 0);
        wrong("a plain piece cut off", 3, 6, 1, 2);
        wrong("a plain piece without bytes", 3, 6);
        wrong("the greatest plain piece", Put.varints(3, Integer.MAX_VALUE - 1, 1, 2, 3));
    }

    private static void wrongPointers() {
        wrong("a pointer of three", 4, 2, 7, 7, 1);
        wrong("a pointer of one", 2, 2, 7, 3, 1);
        wrong("a pointer of none", 1, 2, 7, 1, 1);
        wrong("none back", 5, 2, 7, 9, 0);
        wrong("farther than what is made", 5, 2, 7, 9, 2);
        wrong("a pointer first", 4, 9, 1);
        wrong("a pointer without a distance", 5, 2, 7, 9);
        wrong("the greatest pointer", Put.join(Put.bytes(5, 2, 7), Put.varint(Integer.MAX_VALUE), Put.bytes(1)));
        wrong("the greatest distance", Put.join(Put.bytes(5, 2, 7, 9), Put.varint(Integer.MAX_VALUE)));
    }

    private static void wrongVarints() {
        wrong("a count in two bytes where one is enough", 129, 0, 2, 7);
        wrong("a head in two bytes where one is enough", 1, 130, 0, 7);
        wrong("a distance in two bytes where one is enough", 5, 2, 7, 9, 129, 0);
        wrong("a count cut off", 129);
        wrong("a head cut off", 1, 130);
        wrong("a distance cut off", 5, 2, 7, 9, 129);
        wrong("a head of 2^31 or more", 1, 130, 128, 128, 128, 8, 7);
        wrong("a head of six bytes", 1, 130, 128, 128, 128, 128, 0, 7);
    }

    private static void state() {
        PackColumns x = Put.withTape(3, 6, 1, 2, 3);
        x.unpack();
        Put.tape(x, 0, Put.bytes(2, 4, 8, 9));
        DUE.same("unpack in place of out: the length", x.unpack(), 2);
        DUE.same("unpack in place of out", Put.outText(x), "08 09");
        Put.tape(x, 0, Put.bytes(9, 9));
        DUE.illegalArgument("a wrong one behind", x::unpack);
        Put.tape(x, 0, Put.bytes(0));
        DUE.same("nothing packed in place of out", x.unpack(), 0);
        DUE.same("nothing packed: octet(-1)", x.octet(-1), 0);
    }

    private static void everyPrefixIsWrong() {
        byte[] whole = Put.bytes(13, 2, 7, 9, 1, 2, 8, 9, 3, 6, 1, 2, 3);
        for (int k = 0; k < whole.length; k++) {
            wrong("the first " + k + " bytes", Arrays.copyOf(whole, k));
        }
    }
}
