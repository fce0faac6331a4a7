import java.util.Arrays;

/** The boundary sentences of the term PACKED, as to how bytes are packed, and of promise 4 (pack). */
public final class PackEdgesTest {
    private static final Due DUE = new Due("PackEdgesTest");

    public static void main(String[] args) {
        emptyTape();
        howMany();
        plainPieces();
        pointersFromFour();
        pointersUpTo64();
        headsOfPointers();
        distancesInOneByteOrTwo();
        distancesUpTo4095();
        longerButTooFar();
        greatestCount();
        greatestCountOfMany();
        leastDistance();
        leastDistanceOf64();
        pointersIntoThemselves();
        pointersToTheFirstByte();
        pointersEndWithTheTape();
        whatWasCutIsNotPointedAt();
        plainPiecesGoOn();
        earlierTapesAreNotPointedAt();
        plainUpTo32768();
        plainOver32768();
        pointerUpTo32768();
        pointerOver32768();
        manyPiecesAtTheLimit();
        farPointerAtTheLimit();
        plainBehindAPointer();
        fullTape();
        afterARefusal();
        DUE.finish();
    }

    private static void packs(String what, byte[] tape, byte[] want) {
        Held h = new Held(tape, Put.bytes(1, 2));
        DUE.answers(what, h.x::pack, want.length);
        h.tapeIsEmpty().outIs(want).check(DUE, what);
    }

    private static void refuses(String what, byte[] tape) {
        Held h = new Held(tape, Put.bytes(1, 2));
        DUE.illegalState(what, h.x::pack);
        h.check(DUE, what);
    }

    /** The count and one plain piece. */
    private static byte[] plain(byte[] bytes) {
        return Put.join(Put.varints(bytes.length, 2 * bytes.length), bytes);
    }

    private static byte[] pointer(int count, int distance) {
        return Put.varints(2 * count + 1, distance);
    }

    private static byte[] head(byte[] bytes, int count) {
        return Arrays.copyOf(bytes, count);
    }

    /** Bytes from 100 up, none of which stands in a stubborn run. */
    private static byte[] fresh(int count) {
        byte[] made = new byte[count];
        for (int k = 0; k < count; k++) {
            made[k] = (byte) (100 + k);
        }
        return made;
    }

    private static void emptyTape() {
        DUE.sentence("pack: an empty one is one byte 0");
        packs("pack of none", Put.bytes(), Put.bytes(0));
        packs("pack of one", Put.bytes(0), Put.bytes(1, 2, 0));
        Held h = new Held(Put.bytes(1, 2, 3), Put.bytes());
        h.x.pack();
        DUE.answers("pack of none behind a pack", h.x::pack, 1);
        h.tapeIsEmpty().outIs(Put.bytes(0)).check(DUE, "pack of none behind a pack");
    }

    private static void howMany() {
        DUE.sentence("PACKED bytes: VARINT how many (at most 32768)");
        int[] counts = {127, 128, 3999, 4096, 16383, 16384, 32762};
        for (int count : counts) {
            packs("pack of " + count, Put.stubborn(count), plain(Put.stubborn(count)));
        }
        byte[] full = Put.varints(32768, 2, 7);
        for (int k = 0; k < 511; k++) {
            full = Put.join(full, pointer(64, 1));
        }
        packs("pack of 32768 of one", Put.repeat(7, 32768), Put.join(full, pointer(63, 1)));
    }

    private static void plainPieces() {
        DUE.sentence("PACKED bytes: VARINT 2 n, n bytes (n 1 or above)");
        int[] counts = {1, 2, 3, 4, 63, 64, 8191, 8192};
        for (int count : counts) {
            packs("a plain piece of " + count, Put.stubborn(count), plain(Put.stubborn(count)));
        }
    }

    private static void pointersFromFour() {
        DUE.sentence("How bytes are packed: the greatest n from 4");
        byte[] base = fresh(20);
        packs("two again", Put.join(base, head(base, 2)), plain(Put.join(base, head(base, 2))));
        packs("three again", Put.join(base, head(base, 3)), plain(Put.join(base, head(base, 3))));
        for (int count = 4; count <= 6; count++) {
            byte[] want = Put.join(Put.varints(20 + count, 40), base, pointer(count, 20));
            packs(count + " again", Put.join(base, head(base, count)), want);
        }
        byte[] between = Put.join(base, head(base, 3), Put.bytes(1));
        packs("three again, and more", between, plain(between));
    }

    private static void pointersUpTo64() {
        DUE.sentence("How bytes are packed: the greatest n up to 64");
        byte[] base = Put.stubborn(80);
        byte[] start = Put.join(Put.varint(160), base);
        for (int count = 62; count <= 64; count++) {
            byte[] want = Put.join(Put.varint(80 + count), start, pointer(count, 80));
            packs(count + " again", Put.join(base, head(base, count)), want);
        }
        for (int more = 1; more <= 3; more++) {
            byte[] rest = Arrays.copyOfRange(base, 64, 64 + more);
            byte[] want = Put.join(Put.varint(144 + more), start, pointer(64, 80), Put.varint(2 * more), rest);
            packs(64 + more + " again", Put.join(base, head(base, 64 + more)), want);
        }
        for (int more = 4; more <= 5; more++) {
            byte[] want = Put.join(Put.varint(144 + more), start, pointer(64, 80), pointer(more, 80));
            packs(64 + more + " again", Put.join(base, head(base, 64 + more)), want);
        }
    }

    private static void headsOfPointers() {
        DUE.sentence("PACKED bytes: VARINT 2 n + 1, VARINT d (2 n + 1 in one byte or two)");
        packs("64 of one", Put.repeat(9, 64), Put.bytes(64, 2, 9, 127, 1));
        packs("65 of one", Put.repeat(9, 65), Put.bytes(65, 2, 9, 129, 1, 1));
    }

    private static void distancesInOneByteOrTwo() {
        DUE.sentence("PACKED bytes: VARINT 2 n + 1, VARINT d (d in one byte or two)");
        int[] distances = {126, 127, 128, 129};
        for (int d : distances) {
            byte[] base = Put.join(fresh(10), Put.stubborn(d - 10));
            byte[] want = Put.join(Put.varints(d + 10, 2 * d), base, pointer(10, d));
            packs(d + " back", Put.join(base, fresh(10)), want);
        }
    }

    private static void distancesUpTo4095() {
        DUE.sentence("How bytes are packed: d being at most 4095");
        int[] near = {4093, 4094, 4095};
        for (int d : near) {
            byte[] base = Put.join(fresh(4), Put.stubborn(d - 4));
            byte[] want = Put.join(Put.varints(d + 4, 2 * d), base, pointer(4, d));
            packs(d + " back", Put.join(base, fresh(4)), want);
        }
        int[] far = {4096, 4097, 4100};
        for (int d : far) {
            byte[] tape = Put.join(fresh(4), head(Put.stubborn(4096), Math.min(4096, d - 4)), fresh(4));
            packs(d + " back", tape, plain(tape));
        }
    }

    /** Ten bytes come again 4095 back, or 4096, which is too far; five of them come again 20 back. */
    private static void longerButTooFar() {
        DUE.sentence("How bytes are packed: the greatest n, d being at most 4095");
        for (int d = 4095; d <= 4096; d++) {
            byte[] start = Put.join(fresh(10), Put.stubborn(d - 30));
            byte[] between = Put.bytes(99, 99, 98, 97, 96, 99, 97, 98, 99, 96, 98, 99, 99, 97, 97);
            byte[] tape = Put.join(start, fresh(5), between, fresh(10));
            byte[] want = Put.join(Put.varints(tape.length, 2 * start.length), start, pointer(5, start.length));
            want = Put.join(want, Put.varint(2 * between.length), between);
            byte[] fits = pointer(10, 4095);
            byte[] tooFar = Put.join(pointer(5, 20), Put.bytes(10), Arrays.copyOfRange(fresh(10), 5, 10));
            packs("ten at " + d + ", five at 20", tape, Put.join(want, d == 4095 ? fits : tooFar));
        }
    }

    private static void greatestCount() {
        DUE.sentence("How bytes are packed: the greatest n, of these the least d (n goes first)");
        for (int far = 5; far <= 7; far++) {
            byte[] start = Put.join(Put.bytes(5, 6), fresh(far), Put.bytes(1));
            byte[] near = Put.join(fresh(far - 1), Put.bytes(2));
            byte[] tape = Put.join(start, near, fresh(far), Put.bytes(3));
            byte[] want = Put.join(Put.varints(tape.length, 2 * start.length), start);
            want = Put.join(want, pointer(far - 1, far + 1), Put.bytes(2, 2));
            want = Put.join(want, pointer(far, far + 1 + near.length), Put.bytes(2, 3));
            packs(far + " far and " + (far - 1) + " near", tape, want);
        }
    }

    /** Ten bytes, then nine of them, .. four of them, and then ten again, which stand only in the farthest place. */
    private static void greatestCountOfMany() {
        DUE.sentence("How bytes are packed: the greatest n, of these the least d (of many)");
        byte[] tape = Put.join(Put.bytes(20, 21), fresh(10), Put.bytes(11));
        byte[] want = Put.join(Put.varint(2 * tape.length), tape);
        int last = 10;
        int all = 11;
        for (int count = 9; count >= 4; count--) {
            tape = Put.join(tape, fresh(count), Put.bytes(count));
            want = Put.join(want, pointer(count, last + 1), Put.bytes(2, count));
            last = count;
            all += count + 1;
        }
        tape = Put.join(tape, fresh(10));
        packs("the farthest of seven", tape, Put.join(Put.varint(tape.length), want, pointer(10, all)));
    }

    private static void leastDistance() {
        DUE.sentence("How bytes are packed: of these the least d");
        for (int count = 4; count <= 6; count++) {
            byte[] some = fresh(count);
            byte[] tape = Put.join(some, Put.bytes(1), some, Put.bytes(2), some, Put.bytes(3));
            byte[] want = Put.join(Put.varints(3 * count + 3, 2 * count + 2), some, Put.bytes(1));
            byte[] nearest = pointer(count, count + 1);
            want = Put.join(want, nearest, Put.bytes(2, 2), nearest, Put.bytes(2, 3));
            packs(count + " at two distances", tape, want);
        }
    }

    /** Far away 70 bytes are the same; near by 63, 64 or 65: only 63 are fewer than the 64 that count. */
    private static void leastDistanceOf64() {
        DUE.sentence("How bytes are packed: the greatest n up to 64, of these the least d");
        byte[] base = Put.stubborn(70);
        for (int near = 63; near <= 65; near++) {
            byte[] tape = Put.join(base, Put.bytes(120), head(base, near), Put.bytes(121), base);
            byte[] want = Put.join(Put.varints(tape.length, 142), base, Put.bytes(120));
            byte[] gap = near == 65 ? Put.bytes(4, base[64], 121) : Put.bytes(2, 121);
            want = Put.join(want, pointer(Math.min(64, near), 71), gap);
            int farAway = 71 + near + 1;
            int nearAway = near + 1;
            want = Put.join(want, pointer(64, near == 63 ? farAway : nearAway), pointer(6, farAway));
            packs("70 far and " + near + " near", tape, want);
        }
    }

    private static void pointersIntoThemselves() {
        DUE.sentence("PACKED bytes: n times the byte that stands d back (n above d)");
        packs("four of one", Put.repeat(9, 4), Put.bytes(4, 8, 9, 9, 9, 9));
        packs("five of one", Put.repeat(9, 5), Put.bytes(5, 2, 9, 9, 1));
        packs("two in turn, five", Put.bytes(1, 2, 1, 2, 1), Put.bytes(5, 10, 1, 2, 1, 2, 1));
        packs("two in turn, six", Put.bytes(1, 2, 1, 2, 1, 2), Put.bytes(6, 4, 1, 2, 9, 2));
        packs("three in turn, seven", Put.bytes(1, 2, 3, 1, 2, 3, 1), Put.bytes(7, 6, 1, 2, 3, 9, 3));
        packs("four in turn, eight", Put.bytes(1, 2, 3, 4, 1, 2, 3, 4), Put.bytes(8, 8, 1, 2, 3, 4, 9, 4));
    }

    private static void pointersToTheFirstByte() {
        DUE.sentence("PACKED bytes: d 1 or above, at most what is made so far");
        packs("the first bytes again", Put.bytes(9, 8, 7, 6, 5, 9, 8, 7, 6), Put.bytes(9, 10, 9, 8, 7, 6, 5, 9, 5));
        packs("zeros at the beginning", Put.bytes(0, 0, 0, 0, 1), Put.bytes(5, 10, 0, 0, 0, 0, 1));
        packs("five zeros at the beginning", Put.bytes(0, 0, 0, 0, 0, 1), Put.bytes(6, 2, 0, 9, 1, 2, 1));
    }

    private static void pointersEndWithTheTape() {
        DUE.sentence("How bytes are packed: fits the bytes that come");
        byte[] base = fresh(8);
        packs("three left", Put.join(base, head(base, 3)), plain(Put.join(base, head(base, 3))));
        packs("four left", Put.join(base, head(base, 4)), Put.join(Put.bytes(12, 16), base, Put.bytes(9, 8)));
    }

    private static void whatWasCutIsNotPointedAt() {
        DUE.sentence("end: The tape is cut to its first n bytes (and packed so)");
        for (int length = 11; length <= 13; length++) {
            Held h = new Held(Put.join(fresh(8), fresh(8)), Put.bytes());
            h.x.end(length);
            byte[] left = head(Put.join(fresh(8), fresh(8)), length);
            byte[] want = Put.join(Put.bytes(length, 16), fresh(8), pointer(length - 8, 8));
            want = length < 12 ? plain(left) : want;
            DUE.answers("cut to " + length, h.x::pack, want.length);
            h.tapeIsEmpty().outIs(want).check(DUE, "cut to " + length);
        }
    }

    private static void plainPiecesGoOn() {
        DUE.sentence("How bytes are packed: a piece of the first sort, which goes on as long as that is so");
        byte[] base = fresh(6);
        byte[] tape = Put.join(base, head(base, 4), Put.bytes(1, 2, 3), head(base, 5), base);
        byte[] want = Put.join(Put.bytes(24, 12), base, pointer(4, 6), Put.bytes(6, 1, 2, 3), pointer(5, 13));
        packs("pointer, plain, pointer, pointer", tape, Put.join(want, pointer(6, 18)));
        byte[] late = Put.join(base, Put.bytes(1), Arrays.copyOfRange(base, 1, 6));
        packs("pointer from the second byte on", late, Put.join(Put.bytes(12, 14), base, Put.bytes(1), pointer(5, 6)));
    }

    private static void earlierTapesAreNotPointedAt() {
        DUE.sentence("PACKED bytes: d at most what is made so far (of this tape)");
        Held h = new Held(fresh(30), Put.bytes());
        h.x.pack();
        Put.tape(h.x, 0, fresh(29));
        DUE.answers("the same again", h.x::pack, 31);
        h.tapeIsEmpty().outIs(plain(fresh(29))).check(DUE, "the same again");
    }

    private static void plainUpTo32768() {
        DUE.sentence("pack: Out becomes the tape packed; answers the length of out (32768 at most)");
        for (int length = 32760; length <= 32762; length++) {
            packs("pack of " + length + " plain", Put.stubborn(length), plain(Put.stubborn(length)));
        }
    }

    private static void plainOver32768() {
        DUE.sentence("pack: IllegalStateException: out would be longer than 32768 (out and tape stay)");
        int[] lengths = {32763, 32764, 32767, 32768};
        for (int length : lengths) {
            refuses("pack of " + length + " plain", Put.stubborn(length));
        }
    }

    /** Stubborn bytes, one of its own and then n times that: nine bytes more than are plain, without that one. */
    private static byte[] withPointer(int stubborn, int count) {
        return Put.join(Put.stubborn(stubborn), Put.repeat(120, count + 1));
    }

    private static byte[] withPointerPacked(int stubborn, int count) {
        byte[] start = Put.varints(stubborn + count + 1, 2 * stubborn + 2);
        return Put.join(start, Put.stubborn(stubborn), Put.bytes(120), pointer(count, 1));
    }

    private static void pointerUpTo32768() {
        DUE.sentence("pack: answers the length of out (32768 at most, a pointer being the last)");
        packs("a pointer to 32767", withPointer(32758, 4), withPointerPacked(32758, 4));
        packs("a pointer to 32768", withPointer(32759, 4), withPointerPacked(32759, 4));
        packs("a full tape that ends with a pointer of 64", withPointer(32703, 64), withPointerPacked(32703, 64));
    }

    private static void pointerOver32768() {
        DUE.sentence("pack: IllegalStateException: out would be longer than 32768 (by a pointer)");
        refuses("a pointer to 32769", withPointer(32760, 4));
        refuses("a pointer to 32770", withPointer(32761, 4));
        refuses("a pointer to 32771", withPointer(32762, 4));
        refuses("a pointer to 32772", withPointer(32763, 4));
    }

    /** Four bytes above 95 for each mark; no four in a row come again. */
    private static byte[] marks(int count) {
        byte[] made = Put.bytes();
        for (int k = 0; k < count; k++) {
            made = Put.join(made, mark(k));
        }
        return made;
    }

    private static byte[] mark(int k) {
        return Put.bytes(96 + k / 8, 104 + k % 8, 112 + k / 8, 120 + k % 8);
    }

    /**
     * A full tape: marks; as many times 64 plain bytes and a mark again, which makes 69 bytes of 68; plain bytes; and
     * 65 times the same byte, which makes four bytes of them. So 55 marks make just as many bytes as the tape has.
     */
    private static void manyPiecesAtTheLimit() {
        DUE.sentence("pack: out would be longer than 32768 (many pieces, the last a pointer of 64)");
        for (int marks = 54; marks <= 57; marks++) {
            byte[] all = Put.stubborn(32768 - 65 - 1 - 8 * marks);
            byte[] tape = Put.join(marks(marks), Put.bytes(120));
            byte[] want = Put.join(Put.varints(32768, 2 * (tape.length + 64)), tape);
            for (int k = 0; k < marks; k++) {
                byte[] plain = Arrays.copyOfRange(all, 64 * k, 64 * k + 64);
                byte[] head = k == 0 ? Put.bytes() : Put.varint(128);
                tape = Put.join(tape, plain, mark(k));
                want = Put.join(want, head, plain, pointer(4, 4 * marks + 1 + 64 * k + 64));
            }
            byte[] rest = Put.join(Arrays.copyOfRange(all, 64 * marks, all.length), Put.bytes(120));
            tape = Put.join(tape, rest, Put.repeat(120, 64));
            want = Put.join(want, Put.varint(2 * rest.length), rest, pointer(64, 1));
            DUE.same("the length due of " + marks + " marks", want.length, 32768 + marks - 55);
            if (marks <= 55) {
                packs(marks + " marks", tape, want);
            } else {
                refuses(marks + " marks", tape);
            }
        }
    }

    /** Four bytes that stand 200 back, so that the distance takes two bytes: nine more than are plain. */
    private static void farPointerAtTheLimit() {
        DUE.sentence("pack: out would be longer than 32768 (by a pointer whose distance takes two bytes)");
        for (int length = 32758; length <= 32761; length++) {
            byte[] plain = Put.stubborn(length);
            byte[] tape = Put.join(plain, Arrays.copyOfRange(plain, length - 200, length - 196));
            byte[] want = Put.join(Put.varints(length + 4, 2 * length), plain, pointer(4, 200));
            if (length <= 32759) {
                packs("200 back behind " + length, tape, want);
            } else {
                refuses("200 back behind " + length, tape);
            }
        }
    }

    private static void plainBehindAPointer() {
        DUE.sentence("pack: out would be longer than 32768 (by the last plain piece)");
        int[] counts = {1, 2, 43, 63, 64, 65};
        for (int count : counts) {
            int most = 32768 - 9 - count - (count < 64 ? 1 : 2);
            for (int stubborn = most - 1; stubborn <= most + 3; stubborn++) {
                byte[] rest = head(marks(20), count);
                byte[] tape = Put.join(withPointer(stubborn, 4), rest);
                byte[] want = Put.join(Put.varints(tape.length, 2 * stubborn + 2), Put.stubborn(stubborn));
                want = Put.join(want, Put.bytes(120), pointer(4, 1), Put.varint(2 * count), rest);
                String what = count + " plain bytes to " + want.length;
                if (stubborn <= most) {
                    packs(what, tape, want);
                } else {
                    refuses(what, tape);
                }
            }
        }
    }

    /** Of 32768 bytes the last few are one byte again and again: the more of them, the shorter it is. */
    private static void fullTape() {
        DUE.sentence("pack: out would be longer than 32768 (of a full tape)");
        refuses("a full tape to 32769", withPointer(32760, 7));
        packs("a full tape to 32768", withPointer(32759, 8), withPointerPacked(32759, 8));
        packs("a full tape to 32767", withPointer(32758, 9), withPointerPacked(32758, 9));
    }

    private static void afterARefusal() {
        DUE.sentence("pack: out and tape stay; a call that throws changes nothing but what is told");
        Held h = new Held(Put.stubborn(32768), Put.bytes(5));
        DUE.illegalState("pack", h.x::pack);
        DUE.illegalState("pack again", h.x::pack);
        DUE.answers("end(32763)", () -> h.x.end(32763), 5);
        DUE.illegalState("pack of one too many", h.x::pack);
        DUE.answers("octet(-1)", () -> h.x.octet(-1), 1);
        DUE.answers("end(32762)", () -> h.x.end(32762), 1);
        DUE.answers("pack of just as many", h.x::pack, 32768);
        h.tapeIsEmpty().outIs(plain(Put.stubborn(32762))).check(DUE, "pack after refusals");
    }
}
