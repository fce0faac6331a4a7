import java.util.Arrays;

/** The boundary sentences of the terms CHARACTERS and UTF-8, and of promises 6 (text), 7 (code) and 8 (letter). */
public final class TextEdgesTest {
    private static final Due DUE = new Due("TextEdgesTest");
    private static final int LEAST = Integer.MIN_VALUE;
    private static final int GREATEST = Integer.MAX_VALUE;

    /** The highest character of one byte, of two, of three and of four. */
    private static final int[] HIGHEST = {127, 2047, 65535, 1114111};

    public static void main(String[] args) {
        charactersAsLetters();
        noCharactersAsLetters();
        charactersInTexts();
        noCharactersInTexts();
        bytesOfEachLength();
        oneByteForms();
        firstBytes();
        laterBytes();
        shortestForm();
        cutOff();
        emptyText();
        fullTapes();
        codesGiveWay();
        codesThere();
        codesNotThere();
        lettersUpTo32768();
        lettersOver32768();
        noCharacterIsTestedFirst();
        DUE.finish();
    }

    private static void text(String what, byte[] tape, int... want) {
        Held h = new Held(tape, Put.bytes(1, 2));
        DUE.answers(what, h.x::text, want.length);
        h.tapeIsEmpty().codesAre(want).check(DUE, what);
    }

    private static void noText(String what, byte[] tape) {
        Held h = new Held(tape, Put.bytes(1, 2));
        DUE.illegalArgument(what, h.x::text);
        h.tapeIsEmpty().check(DUE, what);
    }

    private static void text(byte[] tape, int... want) {
        text("text of " + Put.text(tape), tape, want);
    }

    private static void noText(int... tape) {
        noText("text of " + Put.text(Put.bytes(tape)), Put.bytes(tape));
    }

    private static void charactersAsLetters() {
        DUE.sentence("CHARACTERS are the numbers 0 .. 1114111 but 55296 .. 57343 (these are)");
        int[] characters = {0, 1, 55294, 55295, 57344, 57345, 1114110, 1114111};
        for (int c : characters) {
            Held h = new Held(Put.bytes(1), Put.bytes(2));
            DUE.answers("letter(" + c + ")", () -> h.x.letter(c), Put.utf8(c).length);
            h.outGrows(Put.utf8(c)).check(DUE, "letter(" + c + ")");
        }
    }

    private static void noCharactersAsLetters() {
        DUE.sentence("letter: IllegalArgumentException: it is no character");
        int[] none = {-1, -2, -1114111, LEAST, 55296, 55297, 56320, 57342, 57343, 1114112, 1114113, 2097151, GREATEST};
        for (int c : none) {
            Held h = new Held(Put.bytes(1), Put.bytes(2));
            DUE.illegalArgument("letter(" + c + ")", () -> h.x.letter(c));
            h.check(DUE, "letter(" + c + ")");
        }
    }

    private static void charactersInTexts() {
        DUE.sentence("text: Codes become the characters of which the tape is the UTF-8 (these are)");
        text(Put.bytes(0), 0);
        text(Put.bytes(237, 159, 191), 55295);
        text(Put.bytes(238, 128, 128), 57344);
        text(Put.bytes(244, 143, 191, 191), 1114111);
        text(Put.bytes(239, 187, 191, 65), 65279, 65);
        text(Put.bytes(239, 191, 190, 239, 191, 191), 65534, 65535);
    }

    private static void noCharactersInTexts() {
        DUE.sentence("text: IllegalArgumentException: it is not (no CHARACTERS)");
        noText(237, 160, 128);
        noText(237, 175, 191);
        noText(237, 176, 128);
        noText(237, 191, 191);
        noText(237, 160, 189, 237, 184, 128);
        noText(244, 144, 128, 128);
        noText(244, 191, 191, 191);
        noText(245, 128, 128, 128);
        noText(247, 191, 191, 191);
    }

    private static void bytesOfEachLength() {
        DUE.sentence("letter: answers how many bytes that is (each character in its shortest form)");
        letter(127, 127);
        letter(128, 194, 128);
        letter(2047, 223, 191);
        letter(2048, 224, 160, 128);
        letter(65535, 239, 191, 191);
        letter(65536, 240, 144, 128, 128);
        letter(1114111, 244, 143, 191, 191);
    }

    private static void letter(int c, int... want) {
        Held h = new Held(Put.bytes(1), Put.bytes());
        DUE.answers("letter(" + c + ")", () -> h.x.letter(c), want.length);
        h.outIs(Put.bytes(want)).check(DUE, "letter(" + c + ")");
    }

    private static void oneByteForms() {
        DUE.sentence("UTF-8: one byte 0 .. 127");
        text(Put.bytes(0, 127), 0, 127);
        noText(128);
        noText(191);
        noText(65, 128);
        noText(195, 164, 128);
        noText(226, 130, 172, 128);
    }

    private static void firstBytes() {
        DUE.sentence("UTF-8: a first byte for two (192 + ..), three (224 + ..) or four (240 + ..) bytes in all");
        text(Put.bytes(194, 128), 128);
        text(Put.bytes(223, 191), 2047);
        text(Put.bytes(224, 160, 128), 2048);
        text(Put.bytes(239, 191, 191), 65535);
        text(Put.bytes(240, 144, 128, 128), 65536);
        noText(223, 191, 191);
        noText(239, 191, 191, 191);
        noText(240, 144, 128, 128, 128);
        noText(248, 136, 128, 128, 128);
        noText(248, 144, 128, 128);
        noText(251, 191, 191, 191);
        noText(252, 132, 128, 128, 128, 128);
        noText(253, 191, 191, 191, 191, 191);
        noText(254, 128, 128, 128);
        noText(255, 128, 128, 128);
        noText(255, 191);
    }

    private static void laterBytes() {
        DUE.sentence("UTF-8: six bits in each but the first, 128 added to these");
        int[][] whole = {{195, 164}, {226, 130, 172}, {241, 159, 152, 170}};
        for (int[] bytes : whole) {
            for (int k = 1; k < bytes.length; k++) {
                int[] spoilt = bytes.clone();
                int[] wrong = {0, 65, 127, 192, 193, 255};
                for (int octet : wrong) {
                    spoilt[k] = octet;
                    noText(spoilt);
                }
                int[] lowest = bytes.clone();
                lowest[k] = 128;
                text(Put.bytes(lowest), value(lowest));
                int[] highest = bytes.clone();
                highest[k] = 191;
                text(Put.bytes(highest), value(highest));
            }
        }
    }

    /** What a form of two, three or four bytes tells, by plain counting. */
    private static int value(int... bytes) {
        int[] marks = {192, 224, 240};
        int value = bytes[0] - marks[bytes.length - 2];
        for (int k = 1; k < bytes.length; k++) {
            value = value * 64 + bytes[k] - 128;
        }
        return value;
    }

    private static void shortestForm() {
        DUE.sentence("UTF-8: each character in its shortest form");
        noText(192, 128);
        noText(192, 191);
        noText(193, 128);
        noText(193, 191);
        text(Put.bytes(194, 128), 128);
        noText(224, 128, 128);
        noText(224, 129, 191);
        noText(224, 159, 191);
        text(Put.bytes(224, 160, 128), 2048);
        noText(240, 128, 128, 128);
        noText(240, 143, 191, 191);
        text(Put.bytes(240, 144, 128, 128), 65536);
    }

    private static void cutOff() {
        DUE.sentence("text: IllegalArgumentException: it is not (the last character is cut off)");
        for (int c : HIGHEST) {
            byte[] whole = Put.utf8(65, c);
            text(whole, 65, c);
            for (int length = 2; length < whole.length; length++) {
                byte[] cut = Arrays.copyOf(whole, length);
                noText("text of " + Put.text(cut), cut);
            }
        }
        noText("a whole one behind one cut off", Put.join(Put.bytes(226, 130), Put.utf8(8364)));
    }

    private static void emptyText() {
        DUE.sentence("text: Codes become the characters of which the tape is the UTF-8 (there are none)");
        text("text of an empty tape", Put.bytes());
        Held h = new Held(Put.bytes(), Put.bytes());
        h.x.text();
        DUE.answers("text of an empty tape again", h.x::text, 0);
        h.codesAre().check(DUE, "text of an empty tape again");
    }

    private static void fullTapes() {
        DUE.sentence("text: answers how many (of a tape of 32768)");
        for (int c : HIGHEST) {
            byte[] one = Put.utf8(c);
            int count = 32768 / one.length;
            int rest = 32768 - count * one.length;
            int[] want = new int[count + rest];
            Arrays.fill(want, 0, count, c);
            Arrays.fill(want, count, want.length, 66);
            byte[] tape = Put.utf8(want);
            text("a full tape of " + c, tape, want);
            if (one.length > 1) {
                byte[] cut = Put.join(Put.repeat(65, 32769 - one.length), Arrays.copyOf(one, one.length - 1));
                noText("a full tape that ends within " + c, cut);
            }
        }
        noText("a full tape, the last byte wrong", Put.join(Put.repeat(65, 32767), Put.bytes(255)));
        noText("a full tape, the first byte wrong", Put.join(Put.bytes(128), Put.repeat(65, 32767)));
    }

    private static void codesGiveWay() {
        DUE.sentence("text: The tape is empty then in any case; codes stay (if it is not UTF-8)");
        Held h = new Held(Put.bytes(65, 66, 67, 68, 69), Put.bytes());
        h.x.text();
        Put.tape(h.x, 0, Put.bytes(70, 71, 255));
        DUE.illegalArgument("a wrong text", h.x::text);
        DUE.answers("a wrong text: end(0)", () -> h.x.end(0), 0);
        DUE.answers("a wrong text: code(0)", () -> h.x.code(0), 65);
        Put.tape(h.x, 0, Put.bytes(72));
        DUE.answers("a shorter text", h.x::text, 1);
        DUE.answers("a shorter text: code(0)", () -> h.x.code(0), 72);
        DUE.noSuchElement("a shorter text: code(1)", () -> h.x.code(1));
        Put.tape(h.x, 0, Put.bytes(128));
        DUE.illegalArgument("a wrong text again", h.x::text);
        h.tapeIsEmpty().codesAre(72).check(DUE, "a wrong text again");
    }

    private static void codesThere() {
        DUE.sentence("code: A character of codes (the first, the last)");
        int[] counts = {1, 2, 32768};
        for (int count : counts) {
            Held h = new Held(Put.join(Put.bytes(64), Put.repeat(65, count - 1)), Put.bytes());
            h.x.text();
            DUE.answers("code(0) of " + count, () -> h.x.code(0), 64);
            DUE.answers("the last code of " + count, () -> h.x.code(count - 1), count == 1 ? 64 : 65);
            DUE.noSuchElement("the code behind " + count, () -> h.x.code(count));
        }
    }

    private static void codesNotThere() {
        DUE.sentence("code: NoSuchElementException: there is none");
        int[] counts = {0, 1, 3, 32768};
        for (int count : counts) {
            int[] codes = new int[count];
            Arrays.fill(codes, 65);
            int[] places = {-1, -2, LEAST, count, count + 1, 65536, GREATEST};
            for (int k : places) {
                Held h = new Held(Put.repeat(65, count), Put.bytes(1, 2));
                h.x.text();
                DUE.noSuchElement("code(" + k + ") of " + count, () -> h.x.code(k));
                h.tapeIsEmpty().codesAre(codes).check(DUE, "code(" + k + ") of " + count);
            }
        }
    }

    private static void lettersUpTo32768() {
        DUE.sentence("letter: The UTF-8 of a character comes behind out (32768 in all)");
        for (int c : HIGHEST) {
            byte[] more = Put.utf8(c);
            for (int over = 0; over <= 1; over++) {
                int length = 32768 - more.length - over;
                Held h = Held.zeros(3, length);
                DUE.answers("letter(" + c + ") behind " + length, () -> h.x.letter(c), more.length);
                h.outGrows(more).check(DUE, "letter(" + c + ") behind " + length);
            }
        }
    }

    private static void lettersOver32768() {
        DUE.sentence("letter: IllegalStateException: out would be longer than 32768");
        for (int c : HIGHEST) {
            for (int length = 32769 - Put.utf8(c).length; length <= 32768; length++) {
                int full = length;
                Held h = Held.zeros(3, full);
                DUE.illegalState("letter(" + c + ") behind " + full, () -> h.x.letter(c));
                h.check(DUE, "letter(" + c + ") behind " + full);
            }
        }
    }

    private static void noCharacterIsTestedFirst() {
        DUE.sentence("What is thrown is told in the order of testing (letter)");
        int[] none = {-1, LEAST, 55296, 57343, 1114112, GREATEST};
        for (int c : none) {
            Held h = Held.zeros(3, 32768);
            DUE.illegalArgument("letter(" + c + ") behind a full out", () -> h.x.letter(c));
            h.check(DUE, "letter(" + c + ") behind a full out");
        }
    }
}
