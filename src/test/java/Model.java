import java.io.ByteArrayOutputStream;
import java.nio.ByteBuffer;
import java.nio.charset.CharacterCodingException;
import java.nio.charset.CharsetDecoder;
import java.nio.charset.StandardCharsets;
import java.util.ArrayList;
import java.util.Arrays;
import java.util.List;
import java.util.NoSuchElementException;
import java.util.zip.CRC32;

/** The document once more, in the plainest way and without a thought of speed, to compare PackColumns with. */
final class Model {
    private static final int LIMIT = 32768;

    private byte[] tape = {};
    private byte[] out = {};
    private List<Integer> codes = List.of();
    private List<Integer> numbers = List.of();

    void feed(int... fives) {
        require(tape.length + 20 <= LIMIT, new IllegalStateException());
        int old = tape.length;
        tape = Arrays.copyOf(tape, old + 20);
        for (int k = 0; k < 20; k++) {
            tape[old + k] = (byte) (fives[k / 4] >> 24 - 8 * (k % 4));
        }
    }

    int end(int n) {
        require(n >= 0 && n <= tape.length, new IllegalArgumentException());
        int gone = tape.length - n;
        tape = Arrays.copyOf(tape, n);
        return gone;
    }

    int pack() {
        byte[] packed = packed(tape);
        require(packed.length <= LIMIT, new IllegalStateException());
        out = packed;
        tape = new byte[0];
        return out.length;
    }

    int unpack() {
        byte[] made = unpacked(takeTape());
        out = made;
        return out.length;
    }

    int text() {
        codes = characters(takeTape());
        return codes.size();
    }

    int code(int k) {
        require(k >= 0 && k < codes.size(), new NoSuchElementException());
        return codes.get(k);
    }

    int letter(int code) {
        require(isCharacter(code), new IllegalArgumentException());
        return behindOut(utf8(code));
    }

    int varint(int number) {
        require(number >= 0, new IllegalArgumentException());
        return behindOut(Put.varint(number));
    }

    int zigzag(int z) {
        require(Math.abs((long) z) <= 1073741823, new IllegalArgumentException());
        return z >= 0 ? 2 * z : -2 * z - 1;
    }

    int unzigzag(int n) {
        require(n >= 0, new IllegalArgumentException());
        return (int) (n % 2 == 0 ? n / 2 : -((n + 1L) / 2));
    }

    int numbers() {
        Cursor from = new Cursor(takeTape());
        List<Integer> read = new ArrayList<>();
        while (from.place < from.bytes.length) {
            read.add(from.varint());
        }
        numbers = read;
        return numbers.size();
    }

    int number(int k) {
        require(k >= 0 && k < numbers.size(), new NoSuchElementException());
        return numbers.get(k);
    }

    int checksum(int n) {
        require(n >= 0 && n <= out.length, new IllegalArgumentException());
        CRC32 crc = new CRC32();
        crc.update(out, 0, n);
        return (int) crc.getValue();
    }

    int octet(int place) {
        require(place >= -1 && place < out.length, new NoSuchElementException());
        return place == -1 ? out.length : out[place] & 255;
    }

    int back() {
        require(tape.length + out.length <= LIMIT, new IllegalStateException());
        tape = Put.join(tape, out);
        out = new byte[0];
        return tape.length;
    }

    int codeCount() {
        return codes.size();
    }

    int numberCount() {
        return numbers.size();
    }

    private static void require(boolean good, RuntimeException other) {
        if (!good) {
            throw other;
        }
    }

    private byte[] takeTape() {
        byte[] taken = tape;
        tape = new byte[0];
        return taken;
    }

    private int behindOut(byte[] more) {
        require(out.length + more.length <= LIMIT, new IllegalStateException());
        out = Put.join(out, more);
        return more.length;
    }

    static byte[] packed(byte[] from) {
        ByteArrayOutputStream to = new ByteArrayOutputStream();
        to.writeBytes(Put.varint(from.length));
        ByteArrayOutputStream plain = new ByteArrayOutputStream();
        int place = 0;
        while (place < from.length) {
            int bestCount = 0;
            int bestDistance = 0;
            for (int d = 1; d <= 4095 && d <= place; d++) {
                int count = 0;
                while (count < 64 && place + count < from.length && from[place + count - d] == from[place + count]) {
                    count++;
                }
                if (count >= 4 && count > bestCount) {
                    bestCount = count;
                    bestDistance = d;
                }
            }
            if (bestCount == 0) {
                plain.write(from[place]);
                place++;
            } else {
                writePlain(plain, to);
                to.writeBytes(Put.varint(2 * bestCount + 1));
                to.writeBytes(Put.varint(bestDistance));
                place += bestCount;
            }
        }
        writePlain(plain, to);
        return to.toByteArray();
    }

    private static void writePlain(ByteArrayOutputStream plain, ByteArrayOutputStream to) {
        if (plain.size() > 0) {
            to.writeBytes(Put.varint(2 * plain.size()));
            to.writeBytes(plain.toByteArray());
            plain.reset();
        }
    }

    private static byte[] unpacked(byte[] packed) {
        Cursor from = new Cursor(packed);
        int whole = from.varint();
        require(whole <= LIMIT, new IllegalArgumentException());
        byte[] made = new byte[whole];
        int count = 0;
        while (count < whole) {
            int head = from.varint();
            int n = head / 2;
            require(n <= whole - count, new IllegalArgumentException());
            if (head % 2 == 0) {
                require(n >= 1, new IllegalArgumentException());
                for (int k = 0; k < n; k++) {
                    made[count++] = (byte) from.octet();
                }
            } else {
                int d = from.varint();
                require(n >= 4 && d >= 1 && d <= count, new IllegalArgumentException());
                for (int k = 0; k < n; k++, count++) {
                    made[count] = made[count - d];
                }
            }
        }
        require(from.place == packed.length, new IllegalArgumentException());
        return made;
    }

    private static boolean isCharacter(int code) {
        return code >= 0 && code <= 1114111 && !(code >= 55296 && code <= 57343);
    }

    private static byte[] utf8(int code) {
        return new String(new int[] {code}, 0, 1).getBytes(StandardCharsets.UTF_8);
    }

    private static List<Integer> characters(byte[] tape) {
        try {
            CharsetDecoder decoder = StandardCharsets.UTF_8.newDecoder();
            String read = decoder.decode(ByteBuffer.wrap(tape)).toString();
            return read.codePoints().boxed().toList();
        } catch (CharacterCodingException e) {
            throw new IllegalArgumentException();
        }
    }

    private static final class Cursor {
        private final byte[] bytes;
        private int place = 0;

        private Cursor(byte[] bytes) {
            this.bytes = bytes;
        }

        private int octet() {
            require(place < bytes.length, new IllegalArgumentException());
            return bytes[place++] & 255;
        }

        /** Reads on to a byte below 128, and asks whether the number would be written so. */
        private int varint() {
            int start = place;
            long value = 0;
            int octet = 128;
            while (octet >= 128) {
                octet = octet();
                int shift = 7 * (place - start - 1);
                require(shift <= 28, new IllegalArgumentException());
                value += (octet & 127L) << shift;
            }
            require(value <= Integer.MAX_VALUE, new IllegalArgumentException());
            byte[] read = Arrays.copyOfRange(bytes, start, place);
            require(Arrays.equals(read, Put.varint((int) value)), new IllegalArgumentException());
            return (int) value;
        }
    }
}
