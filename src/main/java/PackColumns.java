import java.util.Arrays;
import java.util.NoSuchElementException;

/** Numbers, texts and runs of bytes as a message carries them. README.md says how to use it. */
public final class PackColumns {
    private static final int LIMIT = 32768;
    private static final int FED_BYTES = 20;
    private static final int GREATEST_ZIGZAGGED = 1073741823;

    /** Stands for a number, a byte or a character that is not there; none of them is below 0. */
    private static final int NONE = -1;

    private final Bytes tape;
    private final Packer packer;
    private Bytes out;
    private Bytes spareBytes;
    private Ints codes;
    private Ints numbers;
    private Ints spareInts;

    public PackColumns() {
        tape = new Bytes();
        packer = new Packer();
        out = new Bytes();
        spareBytes = new Bytes();
        codes = new Ints();
        numbers = new Ints();
        spareInts = new Ints();
    }

    public void feed(int a, int b, int c, int d, int e) throws IllegalStateException {
        if (!tape.hasRoomFor(FED_BYTES)) {
            throw new IllegalStateException();
        }
        tape.addFour(a);
        tape.addFour(b);
        tape.addFour(c);
        tape.addFour(d);
        tape.addFour(e);
    }

    public int end(int n) throws IllegalArgumentException {
        if (n < 0 || n > tape.length) {
            throw new IllegalArgumentException();
        }
        int gone = tape.length - n;
        tape.length = n;
        return gone;
    }

    public int pack() throws IllegalStateException {
        if (!packer.write(tape, spareBytes)) {
            throw new IllegalStateException();
        }
        tape.length = 0;
        return takeSpareAsOut();
    }

    public int unpack() throws IllegalArgumentException {
        boolean good = Unpacker.write(new Reader(tape), spareBytes);
        tape.length = 0;
        if (!good) {
            throw new IllegalArgumentException();
        }
        return takeSpareAsOut();
    }

    public int text() throws IllegalArgumentException {
        boolean good = new Reader(tape).takeAllCharacters(spareInts);
        tape.length = 0;
        if (!good) {
            throw new IllegalArgumentException();
        }
        Ints old = codes;
        codes = spareInts;
        spareInts = old;
        return codes.length;
    }

    public int code(int k) throws NoSuchElementException {
        if (k < 0 || k >= codes.length) {
            throw new NoSuchElementException();
        }
        return codes.row[k];
    }

    public int letter(int code) throws IllegalArgumentException, IllegalStateException {
        if (!Utf8.isCharacter(code)) {
            throw new IllegalArgumentException();
        }
        int size = Utf8.size(code);
        if (!out.hasRoomFor(size)) {
            throw new IllegalStateException();
        }
        Utf8.write(code, out);
        return size;
    }

    public int varint(int number) throws IllegalArgumentException, IllegalStateException {
        if (number < 0) {
            throw new IllegalArgumentException();
        }
        int size = Varints.size(number);
        if (!out.hasRoomFor(size)) {
            throw new IllegalStateException();
        }
        Varints.write(number, out);
        return size;
    }

    public int zigzag(int z) throws IllegalArgumentException {
        if (z < -GREATEST_ZIGZAGGED || z > GREATEST_ZIGZAGGED) {
            throw new IllegalArgumentException();
        }
        return z >= 0 ? 2 * z : -2 * z - 1;
    }

    public int unzigzag(int n) throws IllegalArgumentException {
        if (n < 0) {
            throw new IllegalArgumentException();
        }
        // Halving comes first: n + 1 would wrap round for the greatest n.
        return n % 2 == 0 ? n / 2 : -(n / 2) - 1;
    }

    public int numbers() throws IllegalArgumentException {
        boolean good = new Reader(tape).takeAllVarints(spareInts);
        tape.length = 0;
        if (!good) {
            throw new IllegalArgumentException();
        }
        Ints old = numbers;
        numbers = spareInts;
        spareInts = old;
        return numbers.length;
    }

    public int number(int k) throws NoSuchElementException {
        if (k < 0 || k >= numbers.length) {
            throw new NoSuchElementException();
        }
        return numbers.row[k];
    }

    public int checksum(int n) throws IllegalArgumentException {
        if (n < 0 || n > out.length) {
            throw new IllegalArgumentException();
        }
        return Crc.ofFirst(n, out);
    }

    public int octet(int place) throws NoSuchElementException {
        if (place < -1 || place >= out.length) {
            throw new NoSuchElementException();
        }
        return place == -1 ? out.length : out.at(place);
    }

    public int back() throws IllegalStateException {
        if (!tape.hasRoomFor(out.length)) {
            throw new IllegalStateException();
        }
        tape.addRun(out, 0, out.length);
        out.length = 0;
        return tape.length;
    }

    /** Out changes only here in whole, so a packing or unpacking that fails half way leaves it as it was. */
    private int takeSpareAsOut() {
        Bytes old = out;
        out = spareBytes;
        spareBytes = old;
        return out.length;
    }

    /** A run of bytes; whoever adds to it has asked for the room, whoever reads it has looked at the length. */
    private static final class Bytes {
        private final byte[] row = new byte[LIMIT];
        private int length = 0;

        private boolean hasRoomFor(int more) {
            return more <= LIMIT - length;
        }

        private int at(int place) {
            return row[place] & 255;
        }

        private void add(int octet) {
            row[length] = (byte) octet;
            length++;
        }

        private void addFour(int octets) {
            add(octets >>> 24);
            add(octets >>> 16);
            add(octets >>> 8);
            add(octets);
        }

        private void addRun(Bytes from, int place, int count) {
            System.arraycopy(from.row, place, row, length, count);
            length += count;
        }

        /** One byte after the other, since the bytes that come may be asked for again in the same run. */
        private void addFromBack(int distance, int count) {
            for (int k = 0; k < count; k++) {
                add(at(length - distance));
            }
        }

        /** How many bytes from the two places on are the same, at most so many. */
        private int countSame(int earlier, int later, int most) {
            int count = 0;
            while (count < most && row[earlier + count] == row[later + count]) {
                count++;
            }
            return count;
        }
    }

    /** A list of numbers; one byte makes at most one number, so it never needs more than a tape has bytes. */
    private static final class Ints {
        private final int[] row = new int[LIMIT];
        private int length = 0;

        private void add(int value) {
            row[length] = value;
            length++;
        }
    }

    private static final class Varints {
        private static final int LAST_SHIFT = 28;
        private static final int GREATEST_FIFTH_BYTE = 7;

        private static int size(int value) {
            int size = 1;
            for (int shift = 7; shift <= LAST_SHIFT && value >>> shift != 0; shift += 7) {
                size++;
            }
            return size;
        }

        private static void write(int value, Bytes to) {
            int size = size(value);
            for (int k = 0; k < size - 1; k++) {
                to.add(((value >>> (7 * k)) & 127) + 128);
            }
            to.add(value >>> (7 * (size - 1)));
        }
    }

    private static final class Utf8 {
        private static final int HIGHEST_CHARACTER = 1114111;
        private static final int FIRST_SURROGATE = 55296;
        private static final int LAST_SURROGATE = 57343;

        private static boolean isCharacter(int value) {
            return value >= 0 && value <= HIGHEST_CHARACTER && (value < FIRST_SURROGATE || value > LAST_SURROGATE);
        }

        private static int size(int character) {
            if (character < 128) {
                return 1;
            }
            if (character < 2048) {
                return 2;
            }
            return character < 65536 ? 3 : 4;
        }

        /** How many bytes a first byte asks for in all, or NONE if it is no first byte. */
        private static int sizeByFirst(int first) {
            if (first < 0 || (first >= 128 && first < 192) || first >= 248) {
                return NONE;
            }
            if (first < 128) {
                return 1;
            }
            if (first < 224) {
                return 2;
            }
            return first < 240 ? 3 : 4;
        }

        private static int markOfFirst(int size) {
            switch (size) {
                case 2:
                    return 192;
                case 3:
                    return 224;
                case 4:
                    return 240;
                default:
                    return 0;
            }
        }

        private static void write(int character, Bytes to) {
            int size = size(character);
            to.add(markOfFirst(size) + (character >>> (6 * (size - 1))));
            for (int k = size - 2; k >= 0; k--) {
                to.add(128 + ((character >>> (6 * k)) & 63));
            }
        }
    }

    /** Goes over a run of bytes from its first to its last. */
    private static final class Reader {
        private final Bytes from;
        private int place = 0;

        private Reader(Bytes from) {
            this.from = from;
        }

        private int left() {
            return from.length - place;
        }

        private int takeByte() {
            if (left() <= 0) {
                return NONE;
            }
            int octet = from.at(place);
            place++;
            return octet;
        }

        private void takeRun(int count, Bytes to) {
            to.addRun(from, place, count);
            place += count;
        }

        private int takeVarint() {
            int value = 0;
            for (int shift = 0; shift <= Varints.LAST_SHIFT; shift += 7) {
                int octet = takeByte();
                if (octet == NONE || (shift == Varints.LAST_SHIFT && octet > Varints.GREATEST_FIFTH_BYTE)) {
                    return NONE;
                }
                value |= (octet & 127) << shift;
                if (octet < 128) {
                    return octet == 0 && shift > 0 ? NONE : value;
                }
            }
            return NONE;
        }

        private int takeCharacter() {
            int first = takeByte();
            int size = Utf8.sizeByFirst(first);
            if (size == NONE) {
                return NONE;
            }
            int value = first - Utf8.markOfFirst(size);
            for (int k = 1; k < size; k++) {
                int octet = takeByte();
                if (octet < 128 || octet >= 192) {
                    return NONE;
                }
                value = value * 64 + (octet - 128);
            }
            return Utf8.isCharacter(value) && Utf8.size(value) == size ? value : NONE;
        }

        private boolean takeAllVarints(Ints to) {
            to.length = 0;
            for (int k = 0; k < LIMIT && left() > 0; k++) {
                int value = takeVarint();
                if (value == NONE) {
                    return false;
                }
                to.add(value);
            }
            return left() == 0;
        }

        private boolean takeAllCharacters(Ints to) {
            to.length = 0;
            for (int k = 0; k < LIMIT && left() > 0; k++) {
                int character = takeCharacter();
                if (character == NONE) {
                    return false;
                }
                to.add(character);
            }
            return left() == 0;
        }
    }

    /**
     * Packs a run of bytes. The places gone by stand in chains, one for each bucket that four bytes fall into, the
     * nearest first: trying every distance up to 4095 at every byte would be too slow.
     */
    private static final class Packer {
        private static final int FEWEST = 4;
        private static final int MOST = 64;
        private static final int FARTHEST = 4095;
        private static final int BUCKET_BITS = 12;
        private static final int SPREAD = -1640531535;

        /** By bucket: the nearest place gone by, or NONE. */
        private final int[] nearest = new int[1 << BUCKET_BITS];

        /** By the low bits of a place: the next place of its chain, or NONE. The farthest place still has its own. */
        private final int[] next = new int[FARTHEST + 1];

        private int bestCount = 0;
        private int bestDistance = 0;

        /** Answers false if it does not fit; then what stands in to is of no use. */
        private boolean write(Bytes from, Bytes to) {
            Arrays.fill(nearest, NONE);
            to.length = 0;
            Varints.write(from.length, to);
            int plainStart = 0;
            int pointedEnd = 0;
            for (int place = 0; place < from.length; place++) {
                if (place >= pointedEnd) {
                    search(from, place);
                    if (bestCount >= FEWEST) {
                        if (!writePlain(from, plainStart, place, to) || !writePointer(to)) {
                            return false;
                        }
                        pointedEnd = place + bestCount;
                        plainStart = pointedEnd;
                    }
                }
                remember(from, place);
            }
            return writePlain(from, plainStart, from.length, to);
        }

        /** Going from near to far and taking only what is longer, it finds the least distance of the greatest count. */
        private void search(Bytes from, int place) {
            bestCount = 0;
            bestDistance = 0;
            int most = Math.min(MOST, from.length - place);
            if (most < FEWEST) {
                return;
            }
            int lowest = Math.max(0, place - FARTHEST);
            int earlier = nearest[bucket(from, place)];
            for (int k = 0; k < FARTHEST && earlier >= lowest && bestCount < most; k++) {
                int count = from.countSame(earlier, place, most);
                if (count > bestCount) {
                    bestCount = count;
                    bestDistance = place - earlier;
                }
                earlier = next[earlier & FARTHEST];
            }
        }

        private void remember(Bytes from, int place) {
            if (from.length - place >= FEWEST) {
                int bucket = bucket(from, place);
                next[place & FARTHEST] = nearest[bucket];
                nearest[bucket] = place;
            }
        }

        private static int bucket(Bytes from, int place) {
            int four = from.at(place) << 24 | from.at(place + 1) << 16 | from.at(place + 2) << 8 | from.at(place + 3);
            return (four * SPREAD) >>> (32 - BUCKET_BITS);
        }

        private static boolean writePlain(Bytes from, int start, int end, Bytes to) {
            int count = end - start;
            if (count <= 0) {
                return true;
            }
            if (!to.hasRoomFor(Varints.size(2 * count) + count)) {
                return false;
            }
            Varints.write(2 * count, to);
            to.addRun(from, start, count);
            return true;
        }

        private boolean writePointer(Bytes to) {
            int head = 2 * bestCount + 1;
            if (!to.hasRoomFor(Varints.size(head) + Varints.size(bestDistance))) {
                return false;
            }
            Varints.write(head, to);
            Varints.write(bestDistance, to);
            return true;
        }
    }

    private static final class Unpacker {
        private static final int FEWEST_POINTED = 4;

        /** Answers false if the bytes are not packed ones; then what stands in to is of no use. */
        private static boolean write(Reader from, Bytes to) {
            to.length = 0;
            int whole = from.takeVarint();
            if (whole == NONE || whole > LIMIT) {
                return false;
            }
            for (int k = 0; k < LIMIT && to.length < whole; k++) {
                if (!writePiece(from, to, whole - to.length)) {
                    return false;
                }
            }
            return to.length == whole && from.left() == 0;
        }

        private static boolean writePiece(Reader from, Bytes to, int most) {
            int head = from.takeVarint();
            if (head == NONE || head / 2 > most) {
                return false;
            }
            return head % 2 == 0 ? writePlain(from, to, head / 2) : writePointed(from, to, head / 2);
        }

        private static boolean writePlain(Reader from, Bytes to, int count) {
            if (count < 1 || count > from.left()) {
                return false;
            }
            from.takeRun(count, to);
            return true;
        }

        private static boolean writePointed(Reader from, Bytes to, int count) {
            int distance = from.takeVarint();
            if (count < FEWEST_POINTED || distance < 1 || distance > to.length) {
                return false;
            }
            to.addFromBack(distance, count);
            return true;
        }
    }

    private static final class Crc {
        /** What half a byte does to the sum, for the polynomial 3988292384. */
        private static final int[] HALF_BYTES = {
            0x00000000, 0x1db71064, 0x3b6e20c8, 0x26d930ac, 0x76dc4190, 0x6b6b51f4, 0x4db26158, 0x5005713c,
            0xedb88320, 0xf00f9344, 0xd6d6a3e8, 0xcb61b38c, 0x9b64c2b0, 0x86d3d2d4, 0xa00ae278, 0xbdbdf21c
        };

        private static int ofFirst(int count, Bytes from) {
            int sum = -1;
            for (int k = 0; k < count; k++) {
                sum ^= from.at(k);
                sum = HALF_BYTES[sum & 15] ^ (sum >>> 4);
                sum = HALF_BYTES[sum & 15] ^ (sum >>> 4);
            }
            return ~sum;
        }
    }
}
