import java.util.Arrays;

/** The boundary sentences of promises 14 (checksum) and 15 (octet). */
public final class OutEdgesTest {
    private static final Due DUE = new Due("OutEdgesTest");
    private static final int LEAST = Integer.MIN_VALUE;
    private static final int GREATEST = Integer.MAX_VALUE;
    private static final int[] LENGTHS = {0, 1, 2, 300, 32767, 32768};

    public static void main(String[] args) {
        checksumOfNone();
        checksumOfAll();
        checksumOfAllButOne();
        checksumBelowZero();
        checksumOfMoreThanThereIs();
        highestBit();
        octetFromZeroTo255();
        howManyOctets();
        firstAndLastOctet();
        octetBelowMinusOne();
        octetBehindTheLast();
        DUE.finish();
    }

    /** Bytes that come again, so that many of them are made by few calls. */
    private static byte[] some(int count) {
        byte[] made = Put.noise(21, count);
        for (int k = 200; k < count; k++) {
            made[k] = made[k - 200];
        }
        return made;
    }

    private static Held held(int length) {
        return new Held(Put.bytes(1, 2, 3), some(length));
    }

    private static void checksumOfNone() {
        DUE.sentence("checksum: IllegalArgumentException: n is below 0 (it is 0)");
        for (int length : LENGTHS) {
            Held h = held(length);
            DUE.answers("checksum(0) of " + length, () -> h.x.checksum(0), 0);
            h.check(DUE, "checksum(0) of " + length);
        }
    }

    private static void checksumOfAll() {
        DUE.sentence("checksum: The CRC of the first n bytes of out (all of them)");
        for (int length : LENGTHS) {
            Held h = held(length);
            DUE.answers("checksum of " + length, () -> h.x.checksum(length), Put.crc(some(length)));
            h.check(DUE, "checksum of " + length);
        }
    }

    private static void checksumOfAllButOne() {
        DUE.sentence("checksum: The CRC of the first n bytes of out (all but the last)");
        for (int length : LENGTHS) {
            if (length > 0) {
                int want = Put.crc(Arrays.copyOf(some(length), length - 1));
                DUE.answers("checksum of " + length + " but one", () -> held(length).x.checksum(length - 1), want);
            }
        }
    }

    private static void checksumBelowZero() {
        DUE.sentence("checksum: IllegalArgumentException: n is below 0");
        int[] below = {-1, -2, -32768, LEAST};
        for (int length : LENGTHS) {
            for (int n : below) {
                Held h = held(length);
                DUE.illegalArgument("checksum(" + n + ") of " + length, () -> h.x.checksum(n));
                h.check(DUE, "checksum(" + n + ") of " + length);
            }
        }
    }

    private static void checksumOfMoreThanThereIs() {
        DUE.sentence("checksum: IllegalArgumentException: it has less");
        for (int length : LENGTHS) {
            int[] above = {length + 1, length + 2, 65536, GREATEST};
            for (int n : above) {
                Held h = held(length);
                DUE.illegalArgument("checksum(" + n + ") of " + length, () -> h.x.checksum(n));
                h.check(DUE, "checksum(" + n + ") of " + length);
            }
        }
    }

    private static void highestBit() {
        DUE.sentence("checksum: told as an int, below 0 if its highest bit is 1");
        DUE.answers("checksum of 'b'", () -> Put.withOut('b').checksum(1), 0x71beeff9);
        DUE.answers("checksum of 'a'", () -> Put.withOut('a').checksum(1), (int) 3904355907L);
        DUE.answers("checksum of four 255", () -> Put.withOut(255, 255, 255, 255).checksum(4), -1);
        DUE.answers("checksum of 123456789",
            () -> Put.withOut('1', '2', '3', '4', '5', '6', '7', '8', '9').checksum(9), -873187034);
    }

    private static void octetFromZeroTo255() {
        DUE.sentence("octet: A byte of out, 0 .. 255");
        PackColumns x = Put.withOut(0, 1, 127, 128, 254, 255);
        int[] want = {0, 1, 127, 128, 254, 255};
        for (int k = 0; k < want.length; k++) {
            int place = k;
            DUE.answers("octet(" + place + ")", () -> x.octet(place), want[place]);
        }
    }

    private static void howManyOctets() {
        DUE.sentence("octet: for place -1 how many it has");
        for (int length : LENGTHS) {
            Held h = held(length);
            DUE.answers("octet(-1) of " + length, () -> h.x.octet(-1), length);
            h.check(DUE, "octet(-1) of " + length);
        }
    }

    private static void firstAndLastOctet() {
        DUE.sentence("octet: NoSuchElementException: there is none (there is one)");
        for (int length : LENGTHS) {
            if (length > 0) {
                Held h = held(length);
                byte[] want = some(length);
                DUE.answers("octet(0) of " + length, () -> h.x.octet(0), want[0] & 255);
                DUE.answers("the last octet of " + length, () -> h.x.octet(length - 1), want[length - 1] & 255);
                h.check(DUE, "octets of " + length);
            }
        }
    }

    private static void octetBelowMinusOne() {
        DUE.sentence("octet: NoSuchElementException: there is none (place below -1)");
        int[] below = {-2, -3, -32768, LEAST};
        for (int length : LENGTHS) {
            for (int place : below) {
                Held h = held(length);
                DUE.noSuchElement("octet(" + place + ") of " + length, () -> h.x.octet(place));
                h.check(DUE, "octet(" + place + ") of " + length);
            }
        }
    }

    private static void octetBehindTheLast() {
        DUE.sentence("octet: NoSuchElementException: there is none (place behind the last)");
        for (int length : LENGTHS) {
            int[] behind = {length, length + 1, 65536, GREATEST};
            for (int place : behind) {
                Held h = held(length);
                DUE.noSuchElement("octet(" + place + ") of " + length, () -> h.x.octet(place));
                h.check(DUE, "octet(" + place + ") of " + length);
            }
        }
        PackColumns shorter = Put.withOut(1, 2, 3);
        Put.tape(shorter, 0, Put.bytes(1, 2, 9));
        shorter.unpack();
        DUE.answers("a shorter out: octet(0)", () -> shorter.octet(0), 9);
        DUE.noSuchElement("a shorter out: octet(1)", () -> shorter.octet(1));
    }
}
