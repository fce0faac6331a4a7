/** Promise 4 (pack). */
public final class PackTest {
    private static final Due DUE = new Due("PackTest");

    public static void main(String[] args) {
        plainBytes();
        shortestPointer();
        greatestCountLeastDistance();
        longestPointer();
        pointerIntoItself();
        farthestDistance();
        pointerEndsWithTheTape();
        plainPieceGoesOn();
        state();
        readme();
        tooLong();
        longestThatFits();
        pointerThatDoesNotFit();
        againstThePlainSearch();
        DUE.finish();
    }

    private static void packed(String what, byte[] tape, byte[] want) {
        PackColumns x = Put.withTape(tape);
        DUE.same(what + ": the length", x.pack(), want.length);
        DUE.same(what, Put.outText(x), Put.text(want));
    }

    private static byte[] ascending(int count) {
        byte[] made = new byte[count];
        for (int k = 0; k < count; k++) {
            made[k] = (byte) k;
        }
        return made;
    }

    private static void plainBytes() {
        packed("an empty tape", Put.bytes(), Put.bytes(0));
        packed("one byte", Put.bytes(200), Put.bytes(1, 2, 200));
        packed("three bytes", Put.bytes(1, 1, 1), Put.bytes(3, 6, 1, 1, 1));
        packed("63 bytes", ascending(63), Put.join(Put.bytes(63, 126), ascending(63)));
        packed("64 bytes", ascending(64), Put.join(Put.bytes(64, 128, 1), ascending(64)));
        packed("128 bytes", ascending(128), Put.join(Put.bytes(128, 1, 128, 2), ascending(128)));
    }

    private static void shortestPointer() {
        packed("three again", Put.bytes(1, 2, 3, 9, 1, 2, 3), Put.bytes(7, 14, 1, 2, 3, 9, 1, 2, 3));
        packed("four again", Put.bytes(1, 2, 3, 4, 1, 2, 3, 4), Put.bytes(8, 8, 1, 2, 3, 4, 9, 4));
        packed("four of one", Put.bytes(5, 5, 5, 5), Put.bytes(4, 8, 5, 5, 5, 5));
        packed("five of one", Put.bytes(5, 5, 5, 5, 5), Put.bytes(5, 2, 5, 9, 1));
    }

    private static void greatestCountLeastDistance() {
        byte[] farIsLonger = Put.bytes(1, 2, 3, 4, 5, 9, 1, 2, 3, 4, 8, 1, 2, 3, 4, 5);
        packed("the longer one is farther", farIsLonger,
            Put.bytes(16, 12, 1, 2, 3, 4, 5, 9, 9, 6, 2, 8, 11, 11));
        byte[] equal = Put.bytes(1, 2, 3, 4, 9, 1, 2, 3, 4, 8, 1, 2, 3, 4, 7);
        packed("of two alike the nearer", equal, Put.bytes(15, 10, 1, 2, 3, 4, 9, 9, 5, 2, 8, 9, 5, 2, 7));
        byte[] greedy = Put.bytes(1, 2, 3, 4, 9, 2, 3, 4, 5, 6, 7, 8, 1, 2, 3, 4, 5, 6, 7);
        packed("it does not wait for a longer one", greedy,
            Put.bytes(19, 24, 1, 2, 3, 4, 9, 2, 3, 4, 5, 6, 7, 8, 9, 12, 6, 5, 6, 7));
    }

    private static void longestPointer() {
        byte[] base = ascending(64);
        packed("64 again", Put.join(base, base), Put.join(Put.bytes(128, 1, 128, 1), base, Put.bytes(129, 1, 64)));
        byte[] more = ascending(65);
        packed("65 again", Put.join(more, more),
            Put.join(Put.bytes(130, 1, 130, 1), more, Put.bytes(129, 1, 65, 2, 64)));
        byte[] most = ascending(68);
        packed("68 again", Put.join(most, most),
            Put.join(Put.bytes(136, 1, 136, 1), most, Put.bytes(129, 1, 68, 9, 68)));
    }

    private static void pointerIntoItself() {
        packed("65 of one", Put.repeat(7, 65), Put.bytes(65, 2, 7, 129, 1, 1));
        packed("68 of one", Put.repeat(7, 68), Put.bytes(68, 2, 7, 129, 1, 1, 6, 7, 7, 7));
        packed("69 of one", Put.repeat(7, 69), Put.bytes(69, 2, 7, 129, 1, 1, 9, 1));
        packed("two in turn", Put.bytes(1, 2, 1, 2, 1, 2, 1), Put.bytes(7, 4, 1, 2, 11, 2));
    }

    /** Four bytes that stand nowhere between come again at a distance; all between is without an order. */
    private static void farthestDistance() {
        byte[] mark = Put.bytes(1, 2, 3, 4);
        byte[] fits = Put.join(mark, even(4091), mark);
        byte[] want = Put.join(Put.varints(4099, 2 * 4095), mark, even(4091), Put.varints(9, 4095));
        packedLong("4095 back", fits, want);

        byte[] over = Put.join(mark, even(4092), mark);
        byte[] plain = Put.join(Put.varint(4100), Put.varint(2 * 4100), over);
        packedLong("4096 back", over, plain);
    }

    /** For bytes too many to look at all of them in 512 calls. */
    private static void packedLong(String what, byte[] tape, byte[] want) {
        PackColumns x = Put.withTape(tape);
        DUE.same(what + ": the length", x.pack(), want.length);
        DUE.same(what + ": the checksum", x.checksum(want.length), Put.crc(want));
        for (int k = want.length - 8; k < want.length; k++) {
            DUE.same(what + ": octet(" + k + ")", x.octet(k), want[k] & 255);
        }
    }

    /** Even bytes alone, no four of them twice. */
    private static byte[] even(int count) {
        byte[] made = new byte[count];
        for (int k = 0; k < count; k++) {
            int pair = k / 2;
            made[k] = (byte) (k % 2 == 0 ? pair % 64 * 2 : pair / 64 * 2 + 128);
        }
        return made;
    }

    private static void pointerEndsWithTheTape() {
        packed("cut after four", Put.bytes(1, 2, 3, 4, 5, 6, 1, 2, 3, 4), Put.bytes(10, 12, 1, 2, 3, 4, 5, 6, 9, 6));
        packed("cut after three", Put.bytes(1, 2, 3, 4, 5, 6, 1, 2, 3),
            Put.bytes(9, 18, 1, 2, 3, 4, 5, 6, 1, 2, 3));
        PackColumns x = Put.withTape(1, 2, 3, 4, 5, 6, 1, 2, 3, 4, 5, 6);
        x.end(11);
        x.pack();
        DUE.same("what was cut off does not count", Put.outText(x), "0b 0c 01 02 03 04 05 06 0b 06");
    }

    private static void plainPieceGoesOn() {
        byte[] between = Put.bytes(1, 2, 3, 4, 1, 2, 3, 4, 7, 8, 9, 3, 4, 1, 2, 3, 6);
        packed("a plain piece behind a pointer", between,
            Put.bytes(17, 8, 1, 2, 3, 4, 9, 4, 6, 7, 8, 9, 11, 9, 2, 6));
        byte[] pointers = Put.bytes(1, 2, 3, 4, 5, 6, 7, 8, 5, 6, 7, 8, 1, 2, 3, 4);
        packed("two pointers side by side", pointers, Put.bytes(16, 16, 1, 2, 3, 4, 5, 6, 7, 8, 9, 4, 9, 12));
    }

    private static void state() {
        PackColumns x = Put.withOut(50, 51);
        Put.tape(x, 0, Put.bytes(1));
        DUE.same("pack in place of out: the length", x.pack(), 3);
        DUE.same("pack in place of out", Put.outText(x), "01 02 01");
        DUE.same("pack: the tape is empty", x.end(0), 0);
        DUE.same("pack of an empty tape", x.pack(), 1);
        DUE.same("pack of an empty tape: out", Put.outText(x), "00");
        Put.tape(x, 0, Put.bytes(1, 2, 3, 4));
        x.pack();
        Put.tape(x, 0, Put.bytes(1, 2, 3, 4));
        x.pack();
        DUE.same("pack knows nothing of an earlier tape", Put.outText(x), "04 08 01 02 03 04");
    }

    private static void readme() {
        PackColumns x = new PackColumns();
        x.feed(0x61626364, 0x61626364, 0x61626364, 0x61626364, 0x61626364);
        DUE.same("readme: end(18)", x.end(18), 2);
        DUE.same("readme: pack()", x.pack(), 8);
        DUE.same("readme: back()", x.back(), 8);
        DUE.same("readme: unpack()", x.unpack(), 18);
        DUE.same("readme: octet(0)", x.octet(0), 97);
        x.back();
        DUE.same("readme: text()", x.text(), 18);
        DUE.same("readme: code(17)", x.code(17), 98);
    }

    /** A full tape that comes again only at a distance that pack does not reach, though unpack does. */
    private static PackColumns withStubbornTape(int count) {
        byte[] base = even(4096);
        byte[] head = Put.join(Put.varint(count), Put.varint(2 * 4096), base);
        byte[] rest = Put.join(Put.varint(2 * (count - 4096) + 1), Put.varint(4096));
        PackColumns x = Put.withTape(Put.join(head, rest));
        x.unpack();
        x.back();
        return x;
    }

    private static void tooLong() {
        PackColumns x = withStubbornTape(32768);
        x.letter(65);
        DUE.illegalState("pack a stubborn tape", x::pack);
        DUE.same("pack too long: out stays", Put.outText(x), "41");
        DUE.illegalState("pack too long: the tape stays full", x::back);
        DUE.same("pack too long: end(32763)", x.end(32763), 5);
        DUE.illegalState("pack one over", x::pack);
        DUE.same("pack one over: out stays", Put.outText(x), "41");
        DUE.same("pack one over: end(32762)", x.end(32762), 1);
        DUE.same("pack to the limit", x.pack(), 32768);
        DUE.same("pack to the limit: octet(-1)", x.octet(-1), 32768);
        DUE.same("pack to the limit: the tape is empty", x.end(0), 0);
    }

    private static void longestThatFits() {
        PackColumns x = withStubbornTape(32762);
        DUE.same("the longest: pack()", x.pack(), 32768);
        byte[] head = Put.join(Put.varint(32762), Put.varint(2 * 32762));
        for (int k = 0; k < head.length; k++) {
            DUE.same("the longest: octet(" + k + ")", x.octet(k), head[k] & 255);
        }
        DUE.same("the longest: back()", x.back(), 32768);
        DUE.same("the longest: unpack()", x.unpack(), 32762);
        DUE.same("the longest: octet(0)", x.octet(0), even(1)[0] & 255);
        DUE.same("the longest: octet(32761)", x.octet(32761), even(4096)[32761 % 4096] & 255);
    }

    /** Five of one behind plain bytes: one more plain byte and a pointer of two bytes, which fits or does not. */
    private static void pointerThatDoesNotFit() {
        for (int plain = 32756; plain <= 32763; plain++) {
            PackColumns x = withStubbornTape(plain);
            for (int k = 0; k < 5; k++) {
                x.varint(1);
            }
            x.back();
            x.varint(3);
            if (plain + 9 <= 32768) {
                DUE.same("a pointer behind " + plain, x.pack(), plain + 9);
                DUE.same("a pointer behind " + plain + ": its head", x.octet(plain + 7), 9);
                DUE.same("a pointer behind " + plain + ": its distance", x.octet(plain + 8), 1);
            } else {
                DUE.illegalState("a pointer behind " + plain, x::pack);
                DUE.same("a pointer behind " + plain + ": out stays", Put.outText(x), "03");
                DUE.same("a pointer behind " + plain + ": the tape stays", x.end(0), plain + 5);
            }
        }
    }

    /** Tapes longer than pack looks back, with many choices at each byte, against a search of every distance. */
    private static void againstThePlainSearch() {
        for (int seed = 0; seed < 24; seed++) {
            byte[] tape = Put.noise(seed, 9000);
            int period = 3900 + 20 * seed;
            for (int k = 0; k < tape.length; k++) {
                boolean again = k >= period && tape[k] % 8 != 0;
                tape[k] = again ? tape[k - period] : (byte) (tape[k] & (1 << seed % 8) - 1);
            }
            packedLong("tape " + seed, tape, Model.packed(tape));
        }
    }
}
