import java.util.Arrays;

/** The boundary sentences of the term PACKED, as to what packed bytes are, and of promise 5 (unpack). */
public final class UnpackEdgesTest {
    private static final Due DUE = new Due("UnpackEdgesTest");
    private static final int GREATEST = Integer.MAX_VALUE;

    public static void main(String[] args) {
        emptyTape();
        howManyUpTo32768();
        howManyOver32768();
        fewerThanTold();
        moreThanTold();
        theseAlone();
        plainFromOne();
        plainCutOff();
        pointersFromFour();
        distancesFromOne();
        distancesUpToWhatIsMade();
        pointerFirst();
        pointersIntoThemselves();
        otherwiseThanPack();
        countsAreVarints();
        headsAreVarints();
        distancesAreVarints();
        greatestVarints();
        fullTapes();
        outGivesWay();
        DUE.finish();
    }

    private static void unpacks(String what, byte[] tape, byte[] want) {
        Held h = new Held(tape, Put.bytes(1, 2));
        DUE.answers(what, h.x::unpack, want.length);
        h.tapeIsEmpty().outIs(want).check(DUE, what);
    }

    private static void refuses(String what, byte[] tape) {
        Held h = new Held(tape, Put.bytes(1, 2));
        DUE.illegalArgument(what, h.x::unpack);
        h.tapeIsEmpty().check(DUE, what);
    }

    private static void refuses(int... tape) {
        refuses("unpack of " + Put.text(Put.bytes(tape)), Put.bytes(tape));
    }

    private static void unpacks(byte[] tape, int... want) {
        unpacks("unpack of " + Put.text(tape), tape, Put.bytes(want));
    }

    /** So many times 7: one plain and a pointer. */
    private static byte[] sevens(int told, int made) {
        return Put.join(Put.varints(told, 2, 7), Put.varints(2 * (made - 1) + 1, 1));
    }

    private static void emptyTape() {
        DUE.sentence("unpack: IllegalArgumentException: the tape is not PACKED bytes (it is empty)");
        refuses();
        unpacks(Put.bytes(0));
        refuses(0, 0);
    }

    private static void howManyUpTo32768() {
        DUE.sentence("PACKED bytes: VARINT how many (at most 32768)");
        int[] counts = {5, 127, 128, 16383, 16384, 32767, 32768};
        for (int count : counts) {
            unpacks(count + " sevens", sevens(count, count), Put.repeat(7, count));
        }
    }

    private static void howManyOver32768() {
        DUE.sentence("PACKED bytes: VARINT how many (at most 32768; it is more)");
        int[] counts = {32769, 32770, 65536, GREATEST};
        for (int count : counts) {
            refuses(count + " alone", Put.varint(count));
            refuses(count + " and a plain piece", Put.varints(count, 2, 7));
            int pointed = Math.min(count - 1, GREATEST / 2);
            refuses(count + " sevens", Put.join(Put.varints(count, 2, 7), Put.varints(2 * pointed + 1, 1)));
            refuses(count + " told, 32768 made", sevens(count, 32768));
        }
    }

    private static void fewerThanTold() {
        DUE.sentence("PACKED bytes: PIECES that make just these (they make fewer)");
        refuses(1);
        refuses(2, 2, 7);
        refuses(3, 2, 7, 2, 8);
        unpacks(Put.bytes(2, 2, 7, 2, 8), 7, 8);
        refuses("five of six", sevens(6, 5));
        refuses("32767 of 32768", sevens(32768, 32767));
        unpacks("six of six", sevens(6, 6), Put.repeat(7, 6));
    }

    private static void moreThanTold() {
        DUE.sentence("PACKED bytes: PIECES that make just these (they make more)");
        refuses(0, 2, 7);
        refuses(1, 4, 7, 8);
        refuses(2, 2, 7, 4, 8, 9);
        unpacks(Put.bytes(3, 2, 7, 4, 8, 9), 7, 8, 9);
        refuses("six of five", sevens(5, 6));
        refuses("32768 of 32767", sevens(32767, 32768));
        refuses("32769 of 32768", sevens(32768, 32769));
        refuses(1, 2, 7, 2, 8);
        refuses(5, 2, 7, 9, 1, 9, 1);
    }

    private static void theseAlone() {
        DUE.sentence("unpack: IllegalArgumentException: the tape is not PACKED bytes, and these alone");
        int[] behind = {0, 1, 2, 128, 255};
        for (int octet : behind) {
            refuses(0, octet);
            refuses(1, 2, 7, octet);
            refuses("five sevens and " + octet, Put.join(sevens(5, 5), Put.bytes(octet)));
            refuses("32768 sevens and " + octet, Put.join(sevens(32768, 32768), Put.bytes(octet)));
        }
        refuses("twice the same", Put.bytes(1, 2, 7, 1, 2, 7));
    }

    private static void plainFromOne() {
        DUE.sentence("PACKED bytes: VARINT 2 n, n bytes (n 1 or above)");
        refuses(0, 0);
        refuses(1, 0);
        refuses(1, 0, 7);
        refuses(1, 0, 2, 7);
        refuses(1, 2, 7, 0);
        refuses(2, 2, 7, 0, 2, 8);
        unpacks(Put.bytes(1, 2, 7), 7);
        unpacks(Put.bytes(2, 4, 7, 8), 7, 8);
        byte[] many = Put.noise(31, 3000);
        unpacks("a plain piece of 3000", Put.join(Put.varints(3000, 6000), many), many);
    }

    private static void plainCutOff() {
        DUE.sentence("PACKED bytes: VARINT 2 n, n bytes (they are not all there)");
        refuses(1, 2);
        refuses(3, 6);
        refuses(3, 6, 7);
        refuses(3, 6, 7, 8);
        unpacks(Put.bytes(3, 6, 7, 8, 9), 7, 8, 9);
        byte[] many = Put.noise(31, 2999);
        refuses("a plain piece of 3000, 2999 there", Put.join(Put.varints(3000, 6000), many));
    }

    private static void pointersFromFour() {
        DUE.sentence("PACKED bytes: VARINT 2 n + 1, VARINT d (n 4 or above)");
        refuses(1, 2, 7, 1, 1);
        refuses(2, 2, 7, 3, 1);
        refuses(3, 2, 7, 5, 1);
        refuses(4, 2, 7, 7, 1);
        unpacks(Put.bytes(5, 2, 7, 9, 1), 7, 7, 7, 7, 7);
        unpacks(Put.bytes(6, 2, 7, 11, 1), 7, 7, 7, 7, 7, 7);
    }

    private static void distancesFromOne() {
        DUE.sentence("PACKED bytes: d 1 or above");
        refuses(5, 2, 7, 9, 0);
        refuses(6, 4, 7, 8, 9, 0);
        unpacks(Put.bytes(6, 4, 7, 8, 9, 1), 7, 8, 8, 8, 8, 8);
    }

    private static void distancesUpToWhatIsMade() {
        DUE.sentence("PACKED bytes: d at most what is made so far");
        unpacks(Put.bytes(6, 4, 7, 8, 9, 2), 7, 8, 7, 8, 7, 8);
        refuses(6, 4, 7, 8, 9, 3);
        refuses(6, 4, 7, 8, 9, 4);
        refuses(6, 4, 7, 8, 9, 5);
        refuses(6, 4, 7, 8, 9, 6);
        unpacks(Put.bytes(9, 2, 7, 9, 1, 9, 5), 7, 7, 7, 7, 7, 7, 7, 7, 7);
        refuses(9, 2, 7, 9, 1, 9, 6);
        int[] mades = {127, 128, 3000};
        for (int made : mades) {
            byte[] bytes = Put.noise(32, made);
            byte[] start = Put.join(Put.varints(made + 4, 2 * made), bytes, Put.bytes(9));
            byte[] again = Put.join(bytes, Arrays.copyOf(bytes, 4));
            unpacks(made + " made, as far back", Put.join(start, Put.varint(made)), again);
            refuses(made + " made, one farther back", Put.join(start, Put.varint(made + 1)));
        }
        byte[] full = Put.join(Put.varints(32768, 2, 7), Put.varints(2 * 32763 + 1, 1), Put.bytes(9));
        unpacks("32764 made, as far back", Put.join(full, Put.varint(32764)), Put.repeat(7, 32768));
        refuses("32764 made, one farther back", Put.join(full, Put.varint(32765)));
        refuses("32764 made, four farther back", Put.join(full, Put.varint(32768)));
    }

    private static void pointerFirst() {
        DUE.sentence("PACKED bytes: d at most what is made so far (nothing is)");
        refuses(4, 9, 0);
        refuses(4, 9, 1);
        refuses(4, 9, 4);
        refuses(0, 9, 1);
    }

    private static void pointersIntoThemselves() {
        DUE.sentence("PACKED bytes: n times the byte that stands d back");
        unpacks(Put.bytes(8, 6, 7, 8, 9, 11, 3), 7, 8, 9, 7, 8, 9, 7, 8);
        unpacks(Put.bytes(8, 6, 7, 8, 9, 11, 2), 7, 8, 9, 8, 9, 8, 9, 8);
        unpacks(Put.bytes(8, 6, 7, 8, 9, 11, 1), 7, 8, 9, 9, 9, 9, 9, 9);
        unpacks(Put.bytes(8, 8, 6, 7, 8, 9, 9, 4), 6, 7, 8, 9, 6, 7, 8, 9);
    }

    private static void otherwiseThanPack() {
        DUE.sentence("unpack: PACKED bytes (which may point back otherwise than pack does)");
        unpacks("65 at once", sevens(66, 66), Put.repeat(7, 66));
        unpacks(Put.bytes(7, 6, 7, 7, 7, 9, 3), 7, 7, 7, 7, 7, 7, 7);
        unpacks(Put.bytes(9, 2, 7, 9, 1, 9, 1), 7, 7, 7, 7, 7, 7, 7, 7, 7);
        unpacks(Put.bytes(6, 12, 7, 7, 7, 7, 7, 7), 7, 7, 7, 7, 7, 7);
        unpacks(Put.bytes(3, 2, 7, 2, 7, 2, 7), 7, 7, 7);
        for (int d = 4095; d <= 4096; d++) {
            byte[] base = Put.stubborn(3900);
            byte[] made = Put.join(base, Arrays.copyOf(base, d - 3900));
            byte[] want = Put.join(made, Arrays.copyOf(made, 3905));
            byte[] start = Put.join(Put.varints(d + 3905, 7800), base, Put.varints(2 * (d - 3900) + 1, 3900));
            unpacks("3905 at once " + d + " back", Put.join(start, Put.varints(2 * 3905 + 1, d)), want);
        }
    }

    private static void countsAreVarints() {
        DUE.sentence("PACKED bytes: VARINT how many (as a varint is written)");
        refuses(128);
        refuses(129);
        refuses(128, 0);
        refuses(129, 0, 2, 7);
        refuses(129, 128, 0, 2, 7);
        refuses(129, 128, 128, 128, 0, 2, 7);
        refuses(129, 128, 128, 128, 128, 0, 2, 7);
        refuses(129, 128, 128, 128, 8, 2, 7);
        refuses(129, 128, 128, 128, 16, 2, 7);
        unpacks(Put.bytes(1, 2, 7), 7);
    }

    private static void headsAreVarints() {
        DUE.sentence("PACKED bytes: VARINT 2 n or 2 n + 1 (as a varint is written)");
        refuses(1, 130);
        refuses(1, 130, 0, 7);
        refuses(1, 130, 128, 0, 7);
        refuses(1, 130, 128, 128, 128, 0, 7);
        refuses(1, 130, 128, 128, 128, 128, 0, 7);
        refuses(1, 130, 128, 128, 128, 8, 7);
        refuses(1, 130, 128, 128, 128, 16, 7);
        refuses(5, 2, 7, 137);
        refuses(5, 2, 7, 137, 0, 1);
        refuses(5, 2, 7, 137, 128, 128, 128, 8, 1);
        refuses(5, 2, 7, 137, 128, 128, 128, 16, 1);
        unpacks("a head of two bytes", sevens(65, 65), Put.repeat(7, 65));
    }

    private static void distancesAreVarints() {
        DUE.sentence("PACKED bytes: VARINT d (as a varint is written)");
        refuses(5, 2, 7, 9);
        refuses(5, 2, 7, 9, 129);
        refuses(5, 2, 7, 9, 129, 0);
        refuses(5, 2, 7, 9, 129, 128, 0);
        refuses(5, 2, 7, 9, 129, 128, 128, 128, 0);
        refuses(5, 2, 7, 9, 129, 128, 128, 128, 128, 0);
        refuses(5, 2, 7, 9, 129, 128, 128, 128, 8);
        refuses(5, 2, 7, 9, 129, 128, 128, 128, 16);
    }

    private static void greatestVarints() {
        DUE.sentence("VARINT: a number below 2^31 (the greatest ones, where a sum would wrap round)");
        refuses("the greatest count and pointer", Put.varints(GREATEST, 2, 7, GREATEST, 1));
        refuses("the greatest plain piece", Put.join(Put.varints(3, GREATEST - 1), Put.bytes(7, 8, 9)));
        refuses("the greatest plain piece behind another", Put.varints(5, 2, 7, GREATEST - 1, 8, 9));
        refuses("the greatest pointer", Put.varints(5, 2, 7, GREATEST, 1));
        refuses("the greatest distance", Put.varints(5, 2, 7, 9, GREATEST));
        refuses("all the greatest", Put.varints(5, 2, 7, GREATEST, GREATEST));
        refuses("a pointer of 2^29", Put.varints(5, 2, 7, (1 << 30) + 1, 1));
        refuses("a plain piece of 2^29", Put.varints(5, 1 << 30, 7, 7, 7, 7, 7));
    }

    private static void fullTapes() {
        DUE.sentence("unpack: Out becomes what the tape is, packed (of a tape of 32768)");
        byte[] bytes = Put.stubborn(32763);
        byte[] most = Arrays.copyOf(bytes, 32762);
        unpacks("a full tape", Put.join(Put.varints(32762, 2 * 32762), most), most);
        refuses("a full tape, the last byte cut off", Put.join(Put.varints(32763, 2 * 32763), most));
        byte[] fewer = Arrays.copyOf(bytes, 32761);
        refuses("a full tape, one byte behind", Put.join(Put.varints(32761, 2 * 32761), fewer, Put.bytes(0)));
        byte[] small = new byte[2 * 16382];
        for (int k = 0; k < 16382; k++) {
            small[2 * k] = 2;
            small[2 * k + 1] = (byte) (k % 2);
        }
        byte[] inTurn = new byte[16382];
        for (int k = 0; k < inTurn.length; k++) {
            inTurn[k] = (byte) (k % 2);
        }
        unpacks("many pieces of one", Put.join(Put.varint(16382), small), inTurn);
        refuses("many pieces of one, one too few", Put.join(Put.varint(16383), small));
        refuses("many pieces of one, one too many", Put.join(Put.varint(16381), small));
    }

    private static void outGivesWay() {
        DUE.sentence("unpack: The tape is empty then in any case; out stays (if it is not PACKED bytes)");
        Held h = new Held(Put.bytes(3, 6, 7, 8, 9), Put.bytes(1));
        h.x.unpack();
        Put.tape(h.x, 0, Put.bytes(5, 8, 1, 2, 3, 4));
        DUE.illegalArgument("wrong at its end", h.x::unpack);
        DUE.answers("wrong at its end: end(0)", () -> h.x.end(0), 0);
        DUE.answers("wrong at its end: octet(-1)", () -> h.x.octet(-1), 3);
        DUE.answers("wrong at its end: octet(2)", () -> h.x.octet(2), 9);
        DUE.illegalArgument("and the empty tape again", h.x::unpack);
        Put.tape(h.x, 0, Put.bytes(0));
        DUE.answers("nothing packed", h.x::unpack, 0);
        DUE.answers("nothing packed: octet(-1)", () -> h.x.octet(-1), 0);
        Put.tape(h.x, 0, Put.bytes(1));
        DUE.illegalArgument("wrong again", h.x::unpack);
        h.tapeIsEmpty().outIsEmpty().check(DUE, "wrong again");
    }
}
