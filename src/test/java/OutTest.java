import java.util.Arrays;

/** Promises 14 (checksum) and 15 (octet). */
public final class OutTest {
    private static final Due DUE = new Due("OutTest");

    public static void main(String[] args) {
        knownChecksums();
        checksumsOfBeginnings();
        checksumOfEveryByte();
        checksumOfWrongLengths();
        longChecksum();
        octets();
        DUE.finish();
    }

    private static void knownChecksums() {
        PackColumns x = Put.withOut('1', '2', '3', '4', '5', '6', '7', '8', '9');
        DUE.same("checksum of 123456789", x.checksum(9), 0xcbf43926);
        DUE.same("checksum(0)", x.checksum(0), 0);
        DUE.same("checksum of a", Put.withOut('a').checksum(1), 0xe8b7be43);
        DUE.same("checksum of one 0", Put.withOut(0).checksum(1), 0xd202ef8d);
        DUE.same("checksum of one 255", Put.withOut(255).checksum(1), 0xff000000);
    }

    private static void checksumsOfBeginnings() {
        byte[] all = Put.noise(4, 300);
        PackColumns x = Put.withOut(all);
        for (int n = 0; n <= all.length; n += 3) {
            DUE.same("checksum(" + n + ")", x.checksum(n), Put.crc(Arrays.copyOf(all, n)));
        }
        DUE.same("checksum: out stays", Put.outText(x), Put.text(all));
    }

    private static void checksumOfEveryByte() {
        for (int octet = 0; octet < 256; octet++) {
            PackColumns x = Put.withOut(octet, 1);
            DUE.same("checksum of " + octet + " and 1", x.checksum(2), Put.crc(Put.bytes(octet, 1)));
        }
    }

    private static void checksumOfWrongLengths() {
        PackColumns x = Put.withOut(1, 2, 3);
        DUE.illegalArgument("checksum(4) of 3", () -> x.checksum(4));
        DUE.illegalArgument("checksum(-1)", () -> x.checksum(-1));
        DUE.illegalArgument("checksum(least)", () -> x.checksum(Integer.MIN_VALUE));
        DUE.illegalArgument("checksum(greatest)", () -> x.checksum(Integer.MAX_VALUE));
        DUE.same("checksum of wrong lengths: out stays", Put.outText(x), "01 02 03");
        x.back();
        DUE.illegalArgument("checksum(1) of the tape alone", () -> x.checksum(1));
    }

    private static void longChecksum() {
        byte[] all = Put.noise(5, 6000);
        PackColumns x = Put.withOut(all);
        DUE.same("checksum(6000)", x.checksum(6000), Put.crc(all));
        PackColumns zeros = Put.withZerosOut(32768);
        DUE.same("checksum(32768)", zeros.checksum(32768), Put.crc(new byte[32768]));
        DUE.illegalArgument("checksum(32769)", () -> zeros.checksum(32769));
    }

    private static void octets() {
        byte[] every = new byte[256];
        for (int k = 0; k < 256; k++) {
            every[k] = (byte) k;
        }
        PackColumns x = Put.withOut(every);
        DUE.same("octet(-1)", x.octet(-1), 256);
        for (int k = 0; k < 256; k++) {
            DUE.same("octet(" + k + ")", x.octet(k), k);
        }
        DUE.noSuchElement("octet(256)", () -> x.octet(256));
        DUE.noSuchElement("octet(-2)", () -> x.octet(-2));
        DUE.noSuchElement("octet(least)", () -> x.octet(Integer.MIN_VALUE));
        DUE.noSuchElement("octet(greatest)", () -> x.octet(Integer.MAX_VALUE));
        x.back();
        DUE.same("octet(-1) of an empty out", x.octet(-1), 0);
        DUE.noSuchElement("octet(0) of an empty out", () -> x.octet(0));
        PackColumns full = Put.withZerosOut(32768);
        DUE.same("octet(-1) of a full out", full.octet(-1), 32768);
        DUE.same("octet(32767) of a full out", full.octet(32767), 0);
        DUE.noSuchElement("octet(32768) of a full out", () -> full.octet(32768));
    }
}
