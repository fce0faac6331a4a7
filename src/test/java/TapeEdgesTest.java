import java.util.Arrays;

/** The boundary sentences of the terms about tape and out, and of promises 1 (new), 2 (feed), 3 (end), 16 (back). */
public final class TapeEdgesTest {
    private static final Due DUE = new Due("TapeEdgesTest");
    private static final int LEAST = Integer.MIN_VALUE;
    private static final int GREATEST = Integer.MAX_VALUE;

    public static void main(String[] args) {
        nothingAtFirst();
        firstCallsOfNewObjects();
        highestByteFirst();
        feedUpTo32768();
        feedOver32768();
        feedAloneDoesNotFill();
        endOfAllThereIs();
        endToNone();
        endBelowZero();
        endOfMoreThanThereIs();
        whatWasCutDoesNotComeAgain();
        backUpTo32768();
        backOver32768();
        backOfNothing();
        DUE.finish();
    }

    private static Object feed(PackColumns x, int a, int b, int c, int d, int e) {
        x.feed(a, b, c, d, e);
        return null;
    }

    private static void nothingAtFirst() {
        DUE.sentence("THE TAPE and OUT have bytes, none at first; CODES and NUMBERS are lists, empty at first");
        PackColumns x = new PackColumns();
        DUE.answers("new: octet(-1)", () -> x.octet(-1), 0);
        DUE.noSuchElement("new: octet(0)", () -> x.octet(0));
        DUE.answers("new: checksum(0)", () -> x.checksum(0), 0);
        DUE.illegalArgument("new: checksum(1)", () -> x.checksum(1));
        DUE.noSuchElement("new: code(0)", () -> x.code(0));
        DUE.noSuchElement("new: code(-1)", () -> x.code(-1));
        DUE.noSuchElement("new: number(0)", () -> x.number(0));
        DUE.noSuchElement("new: number(-1)", () -> x.number(-1));
        DUE.illegalArgument("new: end(1)", () -> x.end(1));
        DUE.answers("new: end(0)", () -> x.end(0), 0);
        DUE.answers("new: back()", x::back, 0);
    }

    private static void firstCallsOfNewObjects() {
        DUE.sentence("PackColumns(): makes an object in the state that the terms give");
        DUE.answers("new: pack()", () -> new PackColumns().pack(), 1);
        DUE.illegalArgument("new: unpack()", () -> new PackColumns().unpack());
        DUE.answers("new: text()", () -> new PackColumns().text(), 0);
        DUE.answers("new: numbers()", () -> new PackColumns().numbers(), 0);
        DUE.answers("new: letter(0)", () -> new PackColumns().letter(0), 1);
        DUE.answers("new: varint(0)", () -> new PackColumns().varint(0), 1);
        DUE.answers("new: feed", () -> feed(new PackColumns(), 0, 0, 0, 0, 0), "nothing");
    }

    private static void highestByteFirst() {
        DUE.sentence("feed: Twenty bytes, five times four, the highest of each first");
        Held h = new Held(Put.bytes(7), Put.bytes(8));
        feed(h.x, LEAST, GREATEST, -1, 0x01020304, 0x80ff007f);
        h.tapeGrows(Put.bytes(128, 0, 0, 0, 127, 255, 255, 255, 255, 255, 255, 255, 1, 2, 3, 4, 128, 255, 0, 127));
        h.check(DUE, "feed of the least and the greatest");
    }

    private static void feedUpTo32768() {
        DUE.sentence("THE TAPE has bytes up to 32768");
        byte[] fed = Put.bytes(0, 0, 0, 1, 0, 0, 0, 2, 0, 0, 0, 3, 0, 0, 0, 4, 0, 0, 0, 5);
        int[] before = {0, 1, 32747, 32748};
        for (int length : before) {
            Held h = Held.zeros(length, 3);
            DUE.answers("feed behind " + length, () -> feed(h.x, 1, 2, 3, 4, 5), "nothing");
            h.tapeGrows(fed).check(DUE, "feed behind " + length);
        }
    }

    private static void feedOver32768() {
        DUE.sentence("feed: IllegalStateException: it would have more than 32768");
        int[] before = {32749, 32750, 32767, 32768};
        for (int length : before) {
            Held h = Held.zeros(length, 3);
            DUE.illegalState("feed behind " + length, () -> feed(h.x, 1, 2, 3, 4, 5));
            h.check(DUE, "feed behind " + length);
        }
    }

    private static void feedAloneDoesNotFill() {
        DUE.sentence("An object is used for at most 512 calls");
        PackColumns x = new PackColumns();
        for (int k = 0; k < 510; k++) {
            DUE.answers("feed " + k, () -> feed(x, -1, -1, -1, -1, -1), "nothing");
        }
        DUE.answers("510 times fed: end(0)", () -> x.end(0), 10200);
    }

    private static void endOfAllThereIs() {
        DUE.sentence("end: IllegalArgumentException: it has less (it has just as many)");
        int[] lengths = {0, 1, 20, 32767, 32768};
        for (int length : lengths) {
            Held h = Held.zeros(length, 3);
            DUE.answers("end(" + length + ") of " + length, () -> h.x.end(length), 0);
            h.check(DUE, "end(" + length + ") of " + length);
        }
    }

    private static void endToNone() {
        DUE.sentence("end: IllegalArgumentException: n is below 0 (it is 0)");
        int[] lengths = {0, 1, 20, 32768};
        for (int length : lengths) {
            Held h = Held.zeros(length, 3);
            DUE.answers("end(0) of " + length, () -> h.x.end(0), length);
            h.tapeIsEmpty().check(DUE, "end(0) of " + length);
        }
    }

    private static void endBelowZero() {
        DUE.sentence("end: IllegalArgumentException: n is below 0");
        int[] lengths = {0, 1, 32768};
        int[] below = {-1, -2, -32768, LEAST};
        for (int length : lengths) {
            for (int n : below) {
                Held h = Held.zeros(length, 3);
                DUE.illegalArgument("end(" + n + ") of " + length, () -> h.x.end(n));
                h.check(DUE, "end(" + n + ") of " + length);
            }
        }
    }

    private static void endOfMoreThanThereIs() {
        DUE.sentence("end: IllegalArgumentException: it has less");
        int[] lengths = {0, 1, 20, 32767, 32768};
        for (int length : lengths) {
            int[] above = {length + 1, length + 2, 65536, GREATEST};
            for (int n : above) {
                Held h = Held.zeros(length, 3);
                DUE.illegalArgument("end(" + n + ") of " + length, () -> h.x.end(n));
                h.check(DUE, "end(" + n + ") of " + length);
            }
        }
    }

    private static void whatWasCutDoesNotComeAgain() {
        DUE.sentence("end: The tape is cut to its first n bytes; answers how many went");
        byte[] long40 = Put.noise(11, 40);
        Held h = new Held(long40, Put.bytes(1));
        DUE.answers("end(39) of 40", () -> h.x.end(39), 1);
        DUE.answers("end(1) of 39", () -> h.x.end(1), 38);
        DUE.illegalArgument("end(2) of 1", () -> h.x.end(2));
        feed(h.x, 0, 0, 0, 0, 0);
        DUE.illegalArgument("end(22) of 21", () -> h.x.end(22));
        h.tapeIs(Arrays.copyOf(Arrays.copyOf(long40, 1), 21)).check(DUE, "end and feed");
    }

    private static void backUpTo32768() {
        DUE.sentence("back: The bytes of out come to the tape, behind it, and out is empty (32768 in all)");
        int[][] both = {{0, 1}, {0, 32768}, {20, 32748}, {4000, 28768}, {32748, 19}, {32748, 20}, {32767, 1}};
        for (int[] lengths : both) {
            byte[] tape = Put.repeat(5, lengths[0]);
            byte[] out = Put.repeat(6, lengths[1]);
            Held h = new Held(tape, out);
            String what = "back of " + lengths[1] + " behind " + lengths[0];
            DUE.answers(what, h.x::back, lengths[0] + lengths[1]);
            h.tapeGrows(out).outIsEmpty().check(DUE, what);
        }
    }

    private static void backOver32768() {
        DUE.sentence("back: IllegalStateException: it would be longer than 32768");
        int[][] both = {{1, 32768}, {20, 32749}, {4000, 28769}, {4000, 32768}, {32748, 21}, {32767, 2}, {32768, 1}};
        for (int[] lengths : both) {
            Held h = new Held(Put.repeat(5, lengths[0]), Put.repeat(6, lengths[1]));
            String what = "back of " + lengths[1] + " behind " + lengths[0];
            DUE.illegalState(what, h.x::back);
            h.check(DUE, what);
        }
    }

    private static void backOfNothing() {
        DUE.sentence("back: The bytes of out come to the tape, behind it (there are none)");
        int[] lengths = {0, 1, 32767, 32768};
        for (int length : lengths) {
            Held h = Held.zeros(length, 0);
            DUE.answers("back of none behind " + length, h.x::back, length);
            h.check(DUE, "back of none behind " + length);
        }
    }
}
