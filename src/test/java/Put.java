import java.io.ByteArrayOutputStream;
import java.nio.charset.StandardCharsets;
import java.util.Arrays;
import java.util.Random;
import java.util.zip.CRC32;

/** Brings bytes into an object, and reads what it holds, by calls of its face alone. */
final class Put {
    static final int LIMIT = 32768;

    private Put() {
    }

    static byte[] bytes(int... values) {
        byte[] made = new byte[values.length];
        for (int k = 0; k < values.length; k++) {
            made[k] = (byte) values[k];
        }
        return made;
    }

    static byte[] join(byte[]... parts) {
        ByteArrayOutputStream all = new ByteArrayOutputStream();
        for (byte[] part : parts) {
            all.write(part, 0, part.length);
        }
        return all.toByteArray();
    }

    static byte[] repeat(int value, int count) {
        byte[] made = new byte[count];
        Arrays.fill(made, (byte) value);
        return made;
    }

    static byte[] varint(int value) {
        ByteArrayOutputStream made = new ByteArrayOutputStream();
        int rest = value;
        while (rest >= 128) {
            made.write(rest % 128 + 128);
            rest /= 128;
        }
        made.write(rest);
        return made.toByteArray();
    }

    static byte[] varints(int... values) {
        byte[] made = {};
        for (int value : values) {
            made = join(made, varint(value));
        }
        return made;
    }

    static byte[] utf8(int... characters) {
        return new String(characters, 0, characters.length).getBytes(StandardCharsets.UTF_8);
    }

    /** Bytes below 64 and bytes from 64 to 95 in turn, which come again only 4096 back: pack can't point there. */
    static byte[] stubborn(int count) {
        byte[] made = new byte[count];
        for (int k = 0; k < count; k++) {
            int pair = k % 4096 / 2;
            made[k] = (byte) (k % 2 == 0 ? pair % 64 : 64 + pair / 64);
        }
        return made;
    }

    /** The bytes packed with pointers as long and as far as they like, so that few calls make many bytes. */
    static byte[] tight(byte[] bytes) {
        ByteArrayOutputStream to = new ByteArrayOutputStream();
        to.writeBytes(varint(bytes.length));
        int plain = 0;
        int place = 0;
        while (place < bytes.length) {
            int count = 0;
            int distance = 0;
            for (int d = 1; d <= place && place + count < bytes.length; d++) {
                int same = countSame(bytes, place, d);
                distance = same > count ? d : distance;
                count = Math.max(count, same);
            }
            if (count < 4) {
                place++;
                continue;
            }
            to.writeBytes(plainPiece(bytes, plain, place));
            to.writeBytes(varints(2 * count + 1, distance));
            place += count;
            plain = place;
        }
        to.writeBytes(plainPiece(bytes, plain, place));
        return to.toByteArray();
    }

    private static int countSame(byte[] bytes, int place, int distance) {
        int count = 0;
        while (place + count < bytes.length && bytes[place + count] == bytes[place + count - distance]) {
            count++;
        }
        return count;
    }

    private static byte[] plainPiece(byte[] bytes, int start, int end) {
        return start == end ? bytes() : join(varint(2 * (end - start)), Arrays.copyOfRange(bytes, start, end));
    }

    /** Bytes without an order, the same ones each time. */
    static byte[] noise(int seed, int count) {
        byte[] made = new byte[count];
        new Random(seed).nextBytes(made);
        return made;
    }

    static int crc(byte[] from) {
        CRC32 crc = new CRC32();
        crc.update(from);
        return (int) crc.getValue();
    }

    private static int four(byte[] from, int place) {
        int value = 0;
        for (int k = place; k < place + 4; k++) {
            value = value * 256 + (k < from.length ? from[k] & 255 : 0);
        }
        return value;
    }

    /** Puts bytes behind a tape of the length told: feeds them and cuts off what was fed too much. */
    static void tape(PackColumns x, int length, byte[] more) {
        for (int k = 0; k < more.length; k += 20) {
            x.feed(four(more, k), four(more, k + 4), four(more, k + 8), four(more, k + 12), four(more, k + 16));
        }
        x.end(length + more.length);
    }

    static PackColumns withTape(byte[] tape) {
        PackColumns x = new PackColumns();
        tape(x, 0, tape);
        return x;
    }

    static PackColumns withTape(int... tape) {
        return withTape(bytes(tape));
    }

    static PackColumns withOut(byte[] out) {
        PackColumns x = withTape(out);
        x.pack();
        x.back();
        x.unpack();
        return x;
    }

    static PackColumns withOut(int... out) {
        return withOut(bytes(out));
    }

    /** An object with so many zeros in out, in few calls. */
    static PackColumns withZerosOut(int count) {
        byte[] head = join(varint(count), bytes(2, 0));
        byte[] rest = count < 5 ? bytes() : join(varint(2 * (count - 1) + 1), bytes(1));
        PackColumns x = withTape(join(head, rest));
        x.unpack();
        return x;
    }

    static PackColumns withZerosTape(int count) {
        PackColumns x = withZerosOut(count);
        x.back();
        return x;
    }

    static byte[] out(PackColumns x) {
        byte[] made = new byte[x.octet(-1)];
        for (int k = 0; k < made.length; k++) {
            made[k] = (byte) x.octet(k);
        }
        return made;
    }

    /** Out as text, the bytes in hexadecimal. */
    static String outText(PackColumns x) {
        return text(out(x));
    }

    static String text(byte[] bytes) {
        StringBuilder made = new StringBuilder();
        for (byte b : bytes) {
            made.append(String.format("%02x ", b & 255));
        }
        return made.toString().trim();
    }

    /** The tape as text; out is lost. */
    static String tapeText(PackColumns x) {
        x.pack();
        x.back();
        x.unpack();
        return outText(x);
    }
}
