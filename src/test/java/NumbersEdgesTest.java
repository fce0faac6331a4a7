import java.util.Arrays;

/**
 * The boundary sentences of the terms VARINT and ZIGZAG, and of promises 9 (varint), 10 (zigzag), 11 (unzigzag),
 * 12 (numbers) and 13 (number).
 */
public final class NumbersEdgesTest {
    private static final Due DUE = new Due("NumbersEdgesTest");
    private static final int LEAST = Integer.MIN_VALUE;
    private static final int GREATEST = Integer.MAX_VALUE;

    /** The least and the greatest number of one byte, of two, .. of five. */
    private static final int[] LOWEST = {0, 128, 16384, 2097152, 268435456};
    private static final int[] HIGHEST = {127, 16383, 2097151, 268435455, GREATEST};

    public static void main(String[] args) {
        varintsOfEachLength();
        varintsBelowZero();
        varintsUpTo32768();
        varintsOver32768();
        belowZeroIsTestedFirst();
        zigzagAboutZero();
        zigzagInRange();
        zigzagOutOfRange();
        unzigzagInRange();
        unzigzagBelowZero();
        numbersOfEachLength();
        numbersBelowTwoToThe31();
        numbersOfSixBytes();
        lastByteZero();
        cutOff();
        emptyTape();
        fullTapes();
        numbersGiveWay();
        numbersThere();
        numbersNotThere();
        DUE.finish();
    }

    private static void numbers(String what, byte[] tape, int... want) {
        Held h = new Held(tape, Put.bytes(1, 2));
        DUE.answers(what, h.x::numbers, want.length);
        h.tapeIsEmpty().numbersAre(want).check(DUE, what);
    }

    private static void noNumbers(String what, byte[] tape) {
        Held h = new Held(tape, Put.bytes(1, 2));
        DUE.illegalArgument(what, h.x::numbers);
        h.tapeIsEmpty().check(DUE, what);
    }

    private static void numbers(byte[] tape, int... want) {
        numbers("numbers of " + Put.text(tape), tape, want);
    }

    private static void noNumbers(int... tape) {
        noNumbers("numbers of " + Put.text(Put.bytes(tape)), Put.bytes(tape));
    }

    private static void varint(int number, int... want) {
        Held h = new Held(Put.bytes(1), Put.bytes(2));
        DUE.answers("varint(" + number + ")", () -> h.x.varint(number), want.length);
        h.outGrows(Put.bytes(want)).check(DUE, "varint(" + number + ")");
    }

    private static void varintsOfEachLength() {
        DUE.sentence("VARINT: 1 to 5 bytes with 7 bits each, the lowest first, 128 added to all but the last");
        varint(0, 0);
        varint(1, 1);
        varint(127, 127);
        varint(128, 128, 1);
        varint(16383, 255, 127);
        varint(16384, 128, 128, 1);
        varint(2097151, 255, 255, 127);
        varint(2097152, 128, 128, 128, 1);
        varint(268435455, 255, 255, 255, 127);
        varint(268435456, 128, 128, 128, 128, 1);
        varint(2147483646, 254, 255, 255, 255, 7);
        varint(2147483647, 255, 255, 255, 255, 7);
    }

    private static void varintsBelowZero() {
        DUE.sentence("varint: IllegalArgumentException: it is below 0");
        int[] below = {-1, -2, -128, LEAST + 1, LEAST};
        for (int number : below) {
            Held h = new Held(Put.bytes(1), Put.bytes(2));
            DUE.illegalArgument("varint(" + number + ")", () -> h.x.varint(number));
            h.check(DUE, "varint(" + number + ")");
        }
    }

    private static void varintsUpTo32768() {
        DUE.sentence("varint: The varint of a number comes behind out (32768 in all)");
        for (int size = 1; size <= 5; size++) {
            int[] ends = {LOWEST[size - 1], HIGHEST[size - 1]};
            for (int number : ends) {
                int length = 32768 - size;
                int answer = size;
                Held h = Held.zeros(3, length);
                DUE.answers("varint(" + number + ") behind " + length, () -> h.x.varint(number), answer);
                h.outGrows(Put.varint(number)).check(DUE, "varint(" + number + ") behind " + length);
            }
        }
    }

    private static void varintsOver32768() {
        DUE.sentence("varint: IllegalStateException: out would be longer than 32768");
        for (int size = 1; size <= 5; size++) {
            int[] ends = {LOWEST[size - 1], HIGHEST[size - 1]};
            for (int number : ends) {
                for (int length = 32769 - size; length <= 32768; length++) {
                    Held h = Held.zeros(3, length);
                    DUE.illegalState("varint(" + number + ") behind " + length, () -> h.x.varint(number));
                    h.check(DUE, "varint(" + number + ") behind " + length);
                }
            }
        }
    }

    private static void belowZeroIsTestedFirst() {
        DUE.sentence("What is thrown is told in the order of testing (varint)");
        int[] below = {-1, LEAST};
        for (int number : below) {
            Held h = Held.zeros(3, 32768);
            DUE.illegalArgument("varint(" + number + ") behind a full out", () -> h.x.varint(number));
            h.check(DUE, "varint(" + number + ") behind a full out");
        }
    }

    private static void zigzag(int z, int want) {
        Held h = new Held(Put.bytes(1), Put.bytes(2));
        DUE.answers("zigzag(" + z + ")", () -> h.x.zigzag(z), want);
        h.check(DUE, "zigzag(" + z + ")");
    }

    private static void zigzagAboutZero() {
        DUE.sentence("ZIGZAG of z: 2 z for z at or above 0, else -2 z - 1");
        zigzag(-2, 3);
        zigzag(-1, 1);
        zigzag(0, 0);
        zigzag(1, 2);
        zigzag(2, 4);
    }

    private static void zigzagInRange() {
        DUE.sentence("zigzag: The zigzag of a number from -1073741823 to 1073741823");
        zigzag(1073741822, 2147483644);
        zigzag(1073741823, 2147483646);
        zigzag(-1073741822, 2147483643);
        zigzag(-1073741823, 2147483645);
    }

    private static void zigzagOutOfRange() {
        DUE.sentence("zigzag: IllegalArgumentException: another one");
        int[] others = {1073741824, 1073741825, GREATEST, -1073741824, -1073741825, LEAST + 1, LEAST};
        for (int z : others) {
            Held h = new Held(Put.bytes(1), Put.bytes(2));
            DUE.illegalArgument("zigzag(" + z + ")", () -> h.x.zigzag(z));
            h.check(DUE, "zigzag(" + z + ")");
        }
    }

    private static void unzigzag(int n, int want) {
        Held h = new Held(Put.bytes(1), Put.bytes(2));
        DUE.answers("unzigzag(" + n + ")", () -> h.x.unzigzag(n), want);
        h.check(DUE, "unzigzag(" + n + ")");
    }

    /** The greatest is the zigzag of a number that zigzag refuses, but the term gives one to every number. */
    private static void unzigzagInRange() {
        DUE.sentence("unzigzag: Of which number it is the zigzag");
        unzigzag(0, 0);
        unzigzag(1, -1);
        unzigzag(2, 1);
        unzigzag(3, -2);
        unzigzag(4, 2);
        unzigzag(2147483643, -1073741822);
        unzigzag(2147483644, 1073741822);
        unzigzag(2147483645, -1073741823);
        unzigzag(2147483646, 1073741823);
        unzigzag(2147483647, -1073741824);
    }

    private static void unzigzagBelowZero() {
        DUE.sentence("unzigzag: IllegalArgumentException: it is below 0");
        int[] below = {-1, -2, -3, LEAST + 1, LEAST};
        for (int n : below) {
            Held h = new Held(Put.bytes(1), Put.bytes(2));
            DUE.illegalArgument("unzigzag(" + n + ")", () -> h.x.unzigzag(n));
            h.check(DUE, "unzigzag(" + n + ")");
        }
    }

    private static void numbersOfEachLength() {
        DUE.sentence("numbers: Numbers become those of which the tape is the varints, one behind the other");
        for (int size = 1; size <= 5; size++) {
            int lowest = LOWEST[size - 1];
            int highest = HIGHEST[size - 1];
            numbers(Put.varint(lowest), lowest);
            numbers(Put.varint(highest), highest);
            numbers(Put.varints(highest, lowest, highest), highest, lowest, highest);
        }
    }

    private static void numbersBelowTwoToThe31() {
        DUE.sentence("VARINT: a number below 2^31");
        numbers(Put.bytes(254, 255, 255, 255, 7), 2147483646);
        numbers(Put.bytes(255, 255, 255, 255, 7), 2147483647);
        noNumbers(128, 128, 128, 128, 8);
        noNumbers(255, 255, 255, 255, 8);
        noNumbers(255, 255, 255, 255, 15);
        noNumbers(128, 128, 128, 128, 16);
        noNumbers(129, 128, 128, 128, 16);
        noNumbers(255, 255, 255, 255, 127);
    }

    private static void numbersOfSixBytes() {
        DUE.sentence("VARINT: 1 to 5 bytes");
        noNumbers(128, 128, 128, 128, 128, 1);
        noNumbers(129, 128, 128, 128, 128, 0);
        noNumbers(255, 255, 255, 255, 135, 0);
        noNumbers(255, 255, 255, 255, 135, 1);
        noNumbers(255, 255, 255, 255, 255, 127);
        noNumbers(128, 128, 128, 128, 128, 128, 128, 128, 128, 1);
    }

    private static void lastByteZero() {
        DUE.sentence("VARINT: the last is not 0 unless it is the only one");
        numbers(Put.bytes(0), 0);
        numbers(Put.bytes(0, 0), 0, 0);
        noNumbers(128, 0);
        noNumbers(129, 0);
        noNumbers(255, 0);
        noNumbers(128, 128, 0);
        noNumbers(255, 255, 0);
        noNumbers(128, 128, 128, 0);
        noNumbers(255, 255, 255, 0);
        noNumbers(128, 128, 128, 128, 0);
        noNumbers(255, 255, 255, 255, 0);
        numbers(Put.bytes(128, 1, 0), 128, 0);
        numbers(Put.bytes(255, 255, 255, 255, 1), 536870911);
    }

    private static void cutOff() {
        DUE.sentence("numbers: IllegalArgumentException: it is not (the last number is cut off)");
        for (int number : HIGHEST) {
            byte[] whole = Put.varints(5, number);
            for (int length = 2; length < whole.length; length++) {
                byte[] cut = Arrays.copyOf(whole, length);
                noNumbers("numbers of " + Put.text(cut), cut);
            }
        }
    }

    private static void emptyTape() {
        DUE.sentence("numbers: answers how many (of an empty tape)");
        numbers("numbers of an empty tape", Put.bytes());
        Held h = new Held(Put.bytes(), Put.bytes());
        h.x.numbers();
        DUE.answers("numbers of an empty tape again", h.x::numbers, 0);
        h.numbersAre().check(DUE, "numbers of an empty tape again");
    }

    private static void fullTapes() {
        DUE.sentence("numbers: answers how many (of a tape of 32768)");
        for (int number : HIGHEST) {
            byte[] one = Put.varint(number);
            int count = 32768 / one.length;
            int rest = 32768 - count * one.length;
            int[] want = new int[count + rest];
            Arrays.fill(want, 0, count, number);
            Arrays.fill(want, count, want.length, 66);
            byte[] tape = Put.repeat(66, 32768);
            for (int k = 0; k < count; k++) {
                System.arraycopy(one, 0, tape, k * one.length, one.length);
            }
            numbers("a full tape of " + number, tape, want);
            if (one.length > 1) {
                byte[] cut = Put.join(Put.repeat(65, 32769 - one.length), Arrays.copyOf(one, one.length - 1));
                noNumbers("a full tape that ends within " + number, cut);
            }
        }
        noNumbers("a full tape, the last byte 0 too many", Put.join(Put.repeat(65, 32766), Put.bytes(128, 0)));
    }

    private static void numbersGiveWay() {
        DUE.sentence("numbers: The tape is empty then in any case; numbers stay (if it is not varints)");
        Held h = new Held(Put.bytes(1, 2, 3, 4, 5), Put.bytes());
        h.x.numbers();
        Put.tape(h.x, 0, Put.bytes(6, 7, 128));
        DUE.illegalArgument("wrong numbers", h.x::numbers);
        DUE.answers("wrong numbers: end(0)", () -> h.x.end(0), 0);
        DUE.answers("wrong numbers: number(0)", () -> h.x.number(0), 1);
        Put.tape(h.x, 0, Put.bytes(8));
        DUE.answers("fewer numbers", h.x::numbers, 1);
        DUE.answers("fewer numbers: number(0)", () -> h.x.number(0), 8);
        DUE.noSuchElement("fewer numbers: number(1)", () -> h.x.number(1));
        Put.tape(h.x, 0, Put.bytes(128, 0));
        DUE.illegalArgument("wrong numbers again", h.x::numbers);
        h.tapeIsEmpty().numbersAre(8).check(DUE, "wrong numbers again");
    }

    private static void numbersThere() {
        DUE.sentence("number: One of numbers (the first, the last)");
        int[] counts = {1, 2, 32768};
        for (int count : counts) {
            Held h = new Held(Put.join(Put.bytes(64), Put.repeat(65, count - 1)), Put.bytes());
            h.x.numbers();
            DUE.answers("number(0) of " + count, () -> h.x.number(0), 64);
            DUE.answers("the last number of " + count, () -> h.x.number(count - 1), count == 1 ? 64 : 65);
            DUE.noSuchElement("the number behind " + count, () -> h.x.number(count));
        }
    }

    private static void numbersNotThere() {
        DUE.sentence("number: NoSuchElementException: there is none");
        int[] counts = {0, 1, 3, 32768};
        for (int count : counts) {
            int[] numbers = new int[count];
            Arrays.fill(numbers, 65);
            int[] places = {-1, -2, LEAST, count, count + 1, 65536, GREATEST};
            for (int k : places) {
                Held h = new Held(Put.repeat(65, count), Put.bytes(1, 2));
                h.x.numbers();
                DUE.noSuchElement("number(" + k + ") of " + count, () -> h.x.number(k));
                h.tapeIsEmpty().numbersAre(numbers).check(DUE, "number(" + k + ") of " + count);
            }
        }
    }
}
