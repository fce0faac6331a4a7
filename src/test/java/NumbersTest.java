/** Promises 9 (varint), 10 (zigzag), 11 (unzigzag), 12 (numbers) and 13 (number). */
public final class NumbersTest {
    private static final Due DUE = new Due("NumbersTest");
    private static final int GREATEST = Integer.MAX_VALUE;

    public static void main(String[] args) {
        varints();
        varintBelowZero();
        varintAtTheLimit();
        zigzags();
        unzigzags();
        thereAndBack();
        numbers();
        longestList();
        wrongNumbers();
        number();
        DUE.finish();
    }

    private static void varint(int value, String want) {
        PackColumns x = Put.withOut(9);
        DUE.same("varint(" + value + ")", x.varint(value), want.split(" ").length);
        DUE.same("varint(" + value + "): out", Put.outText(x), "09 " + want);
    }

    private static void varints() {
        varint(0, "00");
        varint(1, "01");
        varint(127, "7f");
        varint(128, "80 01");
        varint(300, "ac 02");
        varint(16383, "ff 7f");
        varint(16384, "80 80 01");
        varint(2097151, "ff ff 7f");
        varint(2097152, "80 80 80 01");
        varint(268435455, "ff ff ff 7f");
        varint(268435456, "80 80 80 80 01");
        varint(GREATEST, "ff ff ff ff 07");
    }

    private static void varintBelowZero() {
        PackColumns x = Put.withOut(9);
        DUE.illegalArgument("varint(-1)", () -> x.varint(-1));
        DUE.illegalArgument("varint(least)", () -> x.varint(Integer.MIN_VALUE));
        DUE.same("varint below zero: out stays", Put.outText(x), "09");
    }

    private static void varintAtTheLimit() {
        int[] samples = {127, 16383, 2097151, 268435455, GREATEST};
        for (int size = 1; size <= 5; size++) {
            int value = samples[size - 1];
            PackColumns fits = Put.withZerosOut(32768 - size);
            DUE.same("varint to the limit", Due.answer(() -> fits.varint(value)), size);
            DUE.same("varint to the limit: octet(-1)", fits.octet(-1), 32768);
            DUE.same("varint to the limit: the last", fits.octet(32767), size == 5 ? 7 : 127);
            PackColumns over = Put.withZerosOut(32769 - size);
            DUE.illegalState("varint one over", () -> over.varint(value));
            DUE.same("varint one over: out stays", over.octet(-1), 32769 - size);
        }
        PackColumns full = Put.withZerosOut(32768);
        DUE.illegalArgument("below zero comes before no room", () -> full.varint(-1));
        DUE.illegalState("varint to a full out", () -> full.varint(0));
    }

    private static void zigzags() {
        PackColumns x = new PackColumns();
        DUE.same("zigzag(0)", x.zigzag(0), 0);
        DUE.same("zigzag(-1)", x.zigzag(-1), 1);
        DUE.same("zigzag(1)", x.zigzag(1), 2);
        DUE.same("zigzag(-2)", x.zigzag(-2), 3);
        DUE.same("zigzag(1000)", x.zigzag(1000), 2000);
        DUE.same("zigzag(-1000)", x.zigzag(-1000), 1999);
        DUE.same("zigzag(1073741823)", x.zigzag(1073741823), 2147483646);
        DUE.same("zigzag(-1073741823)", x.zigzag(-1073741823), 2147483645);
        int[] wrong = {1073741824, -1073741824, GREATEST, Integer.MIN_VALUE};
        for (int z : wrong) {
            DUE.illegalArgument("zigzag(" + z + ")", () -> x.zigzag(z));
        }
        DUE.same("zigzag: out stays", x.octet(-1), 0);
    }

    private static void unzigzags() {
        PackColumns x = new PackColumns();
        DUE.same("unzigzag(0)", x.unzigzag(0), 0);
        DUE.same("unzigzag(1)", x.unzigzag(1), -1);
        DUE.same("unzigzag(2)", x.unzigzag(2), 1);
        DUE.same("unzigzag(3)", x.unzigzag(3), -2);
        DUE.same("unzigzag(2000)", x.unzigzag(2000), 1000);
        DUE.same("unzigzag(1999)", x.unzigzag(1999), -1000);
        DUE.same("unzigzag(2147483645)", x.unzigzag(2147483645), -1073741823);
        DUE.same("unzigzag(2147483646)", x.unzigzag(2147483646), 1073741823);
        DUE.same("unzigzag(2147483647)", x.unzigzag(GREATEST), -1073741824);
        DUE.illegalArgument("unzigzag(-1)", () -> x.unzigzag(-1));
        DUE.illegalArgument("unzigzag(least)", () -> x.unzigzag(Integer.MIN_VALUE));
    }

    private static void thereAndBack() {
        for (int shift = 0; shift < 30; shift++) {
            PackColumns x = new PackColumns();
            for (int z = (1 << shift) - 2; z <= (1 << shift) + 2 && z <= 1073741823; z++) {
                DUE.same("there and back " + z, x.unzigzag(x.zigzag(z)), z);
                DUE.same("there and back " + -z, x.unzigzag(x.zigzag(-z)), -z);
            }
        }
    }

    private static void numbers() {
        int[] all = {0, 1, 127, 128, 16383, 16384, 2097151, 2097152, 268435455, 268435456, GREATEST};
        PackColumns x = new PackColumns();
        for (int value : all) {
            x.varint(value);
        }
        x.back();
        x.varint(4);
        DUE.same("numbers()", x.numbers(), all.length);
        for (int k = 0; k < all.length; k++) {
            DUE.same("number(" + k + ")", x.number(k), all[k]);
        }
        DUE.noSuchElement("the number behind", () -> x.number(all.length));
        DUE.same("numbers(): the tape is empty", x.end(0), 0);
        DUE.same("numbers(): out stays", Put.outText(x), "04");
        DUE.same("numbers() of an empty tape", x.numbers(), 0);
        DUE.noSuchElement("numbers() of an empty tape: number(0)", () -> x.number(0));
    }

    private static void longestList() {
        PackColumns x = Put.withZerosTape(32767);
        x.varint(90);
        x.back();
        DUE.same("the longest list", Due.answer(x::numbers), 32768);
        DUE.same("the longest list: number(0)", x.number(0), 0);
        DUE.same("the longest list: number(32767)", x.number(32767), 90);
        DUE.noSuchElement("the longest list: number(32768)", () -> x.number(32768));
    }

    private static void wrong(String what, int... tape) {
        PackColumns x = Put.withTape(172, 2, 7);
        x.numbers();
        Put.tape(x, 0, Put.bytes(tape));
        DUE.illegalArgument(what, x::numbers);
        DUE.same(what + ": numbers stay", x.number(0) + " " + x.number(1), "300 7");
        DUE.noSuchElement(what + ": number(2)", () -> x.number(2));
        DUE.same(what + ": the tape is empty", x.end(0), 0);
    }

    private static void wrongNumbers() {
        wrong("cut off after one", 128);
        wrong("cut off after four", 255, 255, 255, 255);
        wrong("cut off behind whole ones", 1, 2, 3, 129);
        wrong("0 in two bytes", 128, 0);
        wrong("1 in two bytes", 129, 0);
        wrong("127 in three bytes", 255, 128, 0);
        wrong("1 in five bytes", 129, 128, 128, 128, 0);
        wrong("2^31", 128, 128, 128, 128, 8);
        wrong("2^32 - 1", 255, 255, 255, 255, 15);
        wrong("2^32", 128, 128, 128, 128, 16);
        wrong("a fifth byte 127", 255, 255, 255, 255, 127);
        wrong("six bytes", 255, 255, 255, 255, 135, 1);
        wrong("six bytes, the last 0", 255, 255, 255, 255, 135, 0);
        wrong("good ones and then a wrong one", 1, 2, 3, 128, 0);
    }

    private static void number() {
        PackColumns x = Put.withTape(5, 6, 7);
        x.numbers();
        DUE.same("number(0)", x.number(0), 5);
        DUE.same("number(2)", x.number(2), 7);
        DUE.noSuchElement("number(3)", () -> x.number(3));
        DUE.noSuchElement("number(-1)", () -> x.number(-1));
        DUE.noSuchElement("number(least)", () -> x.number(Integer.MIN_VALUE));
        DUE.noSuchElement("number(greatest)", () -> x.number(GREATEST));
        Put.tape(x, 0, Put.bytes(97, 98));
        x.text();
        DUE.same("number(1) after text()", x.number(1), 6);
        Put.tape(x, 0, Put.bytes(8));
        x.numbers();
        DUE.same("number(0) of a shorter list", x.number(0), 8);
        DUE.noSuchElement("number(1) of a shorter list", () -> x.number(1));
    }
}
