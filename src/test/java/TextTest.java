import java.nio.ByteBuffer;
import java.nio.charset.CharacterCodingException;
import java.nio.charset.StandardCharsets;

/** Promises 6 (text), 7 (code) and 8 (letter). */
public final class TextTest {
    private static final Due DUE = new Due("TextTest");

    /** The first and the last character of each length, and those round the gap. */
    private static final int[] EDGES = {
        0, 1, 65, 127, 128, 129, 2047, 2048, 4095, 4096, 55295, 57344, 65533, 65535, 65536, 1048575, 1048576, 1114111
    };

    public static void main(String[] args) {
        letters();
        letterOfNoCharacter();
        letterAtTheLimit();
        texts();
        longestText();
        wrongTexts();
        everySecondByte();
        codes();
        DUE.finish();
    }

    private static void letters() {
        PackColumns x = new PackColumns();
        int length = 0;
        for (int c : EDGES) {
            byte[] want = Put.utf8(c);
            DUE.same("letter(" + c + ")", x.letter(c), want.length);
            for (int k = 0; k < want.length; k++) {
                DUE.same("letter(" + c + "): byte " + k, x.octet(length + k), want[k] & 255);
            }
            length += want.length;
        }
        DUE.same("letters: octet(-1)", x.octet(-1), length);
        DUE.same("letters: back()", x.back(), length);
        DUE.same("letters: text()", x.text(), EDGES.length);
        for (int k = 0; k < EDGES.length; k++) {
            DUE.same("letters: code(" + k + ")", x.code(k), EDGES[k]);
        }
    }

    private static void letterOfNoCharacter() {
        PackColumns x = Put.withOut(7);
        int[] none = {-1, Integer.MIN_VALUE, 55296, 56319, 56320, 57343, 1114112, Integer.MAX_VALUE};
        for (int c : none) {
            DUE.illegalArgument("letter(" + c + ")", () -> x.letter(c));
        }
        DUE.same("letter of no character: out stays", Put.outText(x), "07");
    }

    private static void letterAtTheLimit() {
        int[] samples = {65, 255, 8364, 128512};
        for (int size = 1; size <= 4; size++) {
            int c = samples[size - 1];
            PackColumns fits = Put.withZerosOut(32768 - size);
            DUE.same("letter to the limit", Due.answer(() -> fits.letter(c)), size);
            DUE.same("letter to the limit: octet(-1)", fits.octet(-1), 32768);
            DUE.same("letter to the limit: the last", fits.octet(32767), Put.utf8(c)[size - 1] & 255);
            PackColumns over = Put.withZerosOut(32769 - size);
            DUE.illegalState("letter one over", () -> over.letter(c));
            DUE.same("letter one over: out stays", over.octet(-1), 32769 - size);
        }
        PackColumns full = Put.withZerosOut(32768);
        DUE.illegalArgument("no character comes before no room", () -> full.letter(55296));
        DUE.illegalState("letter to a full out", () -> full.letter(0));
    }

    private static void texts() {
        PackColumns empty = new PackColumns();
        DUE.same("an empty text", empty.text(), 0);
        PackColumns x = Put.withTape(Put.utf8(104, 228, 8364, 128512, 0));
        x.varint(5);
        DUE.same("text()", x.text(), 5);
        DUE.same("text(): code(0)", x.code(0), 104);
        DUE.same("text(): code(1)", x.code(1), 228);
        DUE.same("text(): code(2)", x.code(2), 8364);
        DUE.same("text(): code(3)", x.code(3), 128512);
        DUE.same("text(): code(4)", x.code(4), 0);
        DUE.noSuchElement("text(): code(5)", () -> x.code(5));
        DUE.same("text(): the tape is empty", x.end(0), 0);
        DUE.same("text(): out stays", Put.outText(x), "05");
        DUE.same("text() of an empty tape", x.text(), 0);
        DUE.noSuchElement("text() of an empty tape: code(0)", () -> x.code(0));
    }

    private static void longestText() {
        PackColumns x = Put.withZerosTape(32767);
        x.letter(90);
        x.back();
        DUE.same("the longest text", Due.answer(x::text), 32768);
        DUE.same("the longest text: code(0)", x.code(0), 0);
        DUE.same("the longest text: code(32767)", x.code(32767), 90);
        DUE.noSuchElement("the longest text: code(32768)", () -> x.code(32768));
        PackColumns cut = Put.withZerosTape(32766);
        cut.letter(255);
        cut.back();
        cut.end(32767);
        DUE.illegalArgument("a long text cut off", cut::text);
    }

    private static void wrong(String what, int... tape) {
        PackColumns x = Put.withTape(Put.utf8(97, 8364));
        x.text();
        Put.tape(x, 0, Put.bytes(tape));
        DUE.illegalArgument(what, x::text);
        DUE.same(what + ": codes stay", x.code(0) + " " + x.code(1), "97 8364");
        DUE.noSuchElement(what + ": code(2)", () -> x.code(2));
        DUE.same(what + ": the tape is empty", x.end(0), 0);
    }

    private static void wrongTexts() {
        wrong("a later byte first", 128);
        wrong("a later byte behind a whole one", 65, 191);
        wrong("two bytes cut off", 195);
        wrong("three bytes cut off", 226, 130);
        wrong("four bytes cut off", 240, 159, 152);
        wrong("two bytes broken", 195, 65);
        wrong("three bytes broken", 226, 130, 65);
        wrong("four bytes broken", 240, 159, 152, 192);
        wrong("0 in two bytes", 192, 128);
        wrong("127 in two bytes", 193, 191);
        wrong("0 in three bytes", 224, 128, 128);
        wrong("2047 in three bytes", 224, 159, 191);
        wrong("0 in four bytes", 240, 128, 128, 128);
        wrong("65535 in four bytes", 240, 143, 191, 191);
        wrong("55296", 237, 160, 128);
        wrong("57343", 237, 191, 191);
        wrong("1114112", 244, 144, 128, 128);
        wrong("a first byte 245", 245, 128, 128, 128);
        wrong("a first byte 247", 247, 191, 191, 191);
        wrong("a first byte 248", 248, 136, 128, 128, 128);
        wrong("a first byte 252", 252, 132, 128, 128, 128, 128);
        wrong("a first byte 254", 254);
        wrong("a first byte 255", 255);
        wrong("good ones and then a wrong one", 65, 66, 67, 68, 255);
    }

    /** Every first byte with every kind of second, third and fourth, as the Java library reads it. */
    private static void everySecondByte() {
        int[] later = {0, 127, 128, 143, 144, 159, 160, 191, 192, 255};
        for (int first = 128; first < 256; first++) {
            for (int second : later) {
                int[][] tapes = {{first, second}, {first, second, 128}, {first, second, 191, 128}};
                for (int[] tape : tapes) {
                    PackColumns x = Put.withTape(tape);
                    byte[] bytes = Put.bytes(tape);
                    DUE.answers("text of " + Put.text(bytes), x::text, libraryCount(bytes));
                }
            }
        }
    }

    private static Object libraryCount(byte[] tape) {
        try {
            String read = StandardCharsets.UTF_8.newDecoder().decode(ByteBuffer.wrap(tape)).toString();
            return read.codePointCount(0, read.length());
        } catch (CharacterCodingException e) {
            return "throws java.lang.IllegalArgumentException";
        }
    }

    private static void codes() {
        PackColumns x = Put.withTape(97, 98, 99);
        x.text();
        DUE.same("code(0)", x.code(0), 97);
        DUE.same("code(2)", x.code(2), 99);
        DUE.noSuchElement("code(3)", () -> x.code(3));
        DUE.noSuchElement("code(-1)", () -> x.code(-1));
        DUE.noSuchElement("code(least)", () -> x.code(Integer.MIN_VALUE));
        DUE.noSuchElement("code(greatest)", () -> x.code(Integer.MAX_VALUE));
        Put.tape(x, 0, Put.bytes(5, 6));
        x.numbers();
        DUE.same("code(1) after numbers()", x.code(1), 98);
        Put.tape(x, 0, Put.bytes(100));
        x.text();
        DUE.same("code(0) of a shorter text", x.code(0), 100);
        DUE.noSuchElement("code(1) of a shorter text", () -> x.code(1));
        DUE.same("number(1) after text()", x.number(1), 6);
    }
}
