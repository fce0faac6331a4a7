import java.util.Arrays;

/**
 * An object whose whole state is known: tape, out, codes and numbers. A test makes a call, tells what has become of
 * the state, and check() looks whether all four are so. No object gets more than 512 calls.
 */
final class Held {
    private static final int[] CODES = {97, 8364, 1114111};
    private static final int[] NUMBERS = {300, 0, Integer.MAX_VALUE};
    private static final int FED_AT_MOST = 4000;
    private static final int ALL_OF = 24;

    final PackColumns x = new PackColumns();
    private byte[] tape;
    private byte[] out;
    private int[] codes = CODES;
    private int[] numbers = NUMBERS;

    /** A tape too long to be fed comes out of unpack; then each byte of out must be below 128, and they are few. */
    Held(byte[] tape, byte[] out) {
        this.tape = tape;
        this.out = out;
        Put.tape(x, 0, Put.utf8(CODES));
        x.text();
        Put.tape(x, 0, Put.varints(NUMBERS));
        x.numbers();
        if (tape.length <= FED_AT_MOST) {
            unpacked(out);
            Put.tape(x, 0, tape);
        } else {
            unpacked(tape);
            x.back();
            for (byte b : out) {
                x.varint(b);
            }
        }
    }

    private void unpacked(byte[] bytes) {
        Put.tape(x, 0, Put.tight(bytes));
        x.unpack();
    }

    /** So many zeros on the tape, and so many in out. */
    static Held zeros(int tape, int out) {
        return new Held(new byte[tape], new byte[out]);
    }

    Held tapeIs(byte[] bytes) {
        tape = bytes;
        return this;
    }

    Held outIs(byte[] bytes) {
        out = bytes;
        return this;
    }

    Held codesAre(int... characters) {
        codes = characters;
        return this;
    }

    Held numbersAre(int... list) {
        numbers = list;
        return this;
    }

    Held tapeGrows(byte[] more) {
        return tapeIs(Put.join(tape, more));
    }

    Held outGrows(byte[] more) {
        return outIs(Put.join(out, more));
    }

    Held tapeIsEmpty() {
        return tapeIs(Put.bytes());
    }

    Held outIsEmpty() {
        return outIs(Put.bytes());
    }

    /** The object is of no more use then: its tape and out are used up by the looking. */
    void check(Due due, String what) {
        checkOut(due, what + ": out", out);
        checkCodes(due, what + ": codes");
        checkNumbers(due, what + ": numbers");
        checkTape(due, what + ": the tape");
    }

    private void checkOut(Due due, String what, byte[] want) {
        due.answers(what + ": octet(-1)", () -> x.octet(-1), want.length);
        due.answers(what + ": checksum", () -> x.checksum(want.length), Put.crc(want));
        for (int k : places(want.length)) {
            due.answers(what + ": octet(" + k + ")", () -> x.octet(k), want[k] & 255);
        }
        due.noSuchElement(what + ": the octet behind", () -> x.octet(want.length));
    }

    private void checkCodes(Due due, String what) {
        for (int k : places(codes.length)) {
            due.answers(what + ": code(" + k + ")", () -> x.code(k), codes[k]);
        }
        due.noSuchElement(what + ": the code behind", () -> x.code(codes.length));
    }

    private void checkNumbers(Due due, String what) {
        for (int k : places(numbers.length)) {
            due.answers(what + ": number(" + k + ")", () -> x.number(k), numbers[k]);
        }
        due.noSuchElement(what + ": the number behind", () -> x.number(numbers.length));
    }

    private void checkTape(Due due, String what) {
        due.illegalArgument(what + ": one more than it has", () -> x.end(tape.length + 1));
        due.answers(what + ": as many as it has", () -> x.end(tape.length), 0);
        boolean packed = !Due.answer(x::pack).toString().startsWith("throws");
        if (packed) {
            x.back();
            x.unpack();
            checkOut(due, what, tape);
        } else {
            checkTapeByNumbers(due, what);
        }
    }

    /** A tape that is too long when packed is looked at by numbers(), so its bytes are to be below 128. */
    private void checkTapeByNumbers(Due due, String what) {
        due.answers(what + ": numbers()", x::numbers, tape.length);
        for (int k : places(tape.length)) {
            due.answers(what + ": byte " + k, () -> x.number(k), (int) tape[k]);
        }
    }

    /** All places, or the first, the last and some between. */
    private static int[] places(int count) {
        if (count <= ALL_OF) {
            int[] all = new int[count];
            Arrays.setAll(all, k -> k);
            return all;
        }
        int[] some = new int[ALL_OF];
        for (int k = 0; k < 8; k++) {
            some[k] = k;
            some[8 + k] = 8 + (int) ((count - 16L) * k / 8);
            some[16 + k] = count - 8 + k;
        }
        return some;
    }
}
