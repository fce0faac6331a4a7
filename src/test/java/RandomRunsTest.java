import java.io.ByteArrayOutputStream;
import java.nio.charset.StandardCharsets;
import java.util.Arrays;
import java.util.Random;

/** All promises: long runs of calls, the same ones each time, every answer compared with the model's. */
public final class RandomRunsTest {
    private static final Due DUE = new Due("RandomRunsTest");
    private static final int RUNS = 400;
    private static final int CALLS = 512;

    private final Random random;
    private final String name;
    private final PackColumns x = new PackColumns();
    private final Model model = new Model();
    private int calls = 0;

    private RandomRunsTest(int seed) {
        random = new Random(seed);
        name = "run " + seed + ", call ";
    }

    public static void main(String[] args) {
        for (int seed = 0; seed < RUNS; seed++) {
            new RandomRunsTest(seed).run();
        }
        DUE.finish();
    }

    private interface Asked {
        Object call();
    }

    /** Calls that an object has not left are not made, since their answers are free. */
    private boolean both(String what, Asked ours, Asked due) {
        if (calls >= CALLS) {
            return false;
        }
        calls++;
        Object got = Due.answer(ours::call);
        Object want = Due.answer(due::call);
        DUE.same(name + calls + ", " + what, got, want);
        return !want.toString().startsWith("throws");
    }

    private void run() {
        while (calls < CALLS) {
            switch (random.nextInt(12)) {
                case 0 -> packSome();
                case 1 -> unpackSome();
                case 2 -> textOfSome();
                case 3 -> numbersOfSome();
                case 4 -> letters();
                case 5 -> varints();
                case 6 -> zigzags();
                case 7 -> back();
                case 8 -> end(edgy(Put.LIMIT));
                case 9 -> blowUp();
                case 10 -> feed(noise(20), 0);
                default -> pack();
            }
            look();
        }
    }

    private int edgy(int most) {
        int[] edges = {-1, 0, 1, most - 1, most, most + 1, Integer.MIN_VALUE, Integer.MAX_VALUE};
        return random.nextInt(4) == 0 ? edges[random.nextInt(edges.length)] : random.nextInt(most + 1);
    }

    private byte[] noise(int count) {
        byte[] made = new byte[count];
        random.nextBytes(made);
        return made;
    }

    /** Bytes of few kinds, or pieces that come again, or noise. */
    private byte[] compressible(int count) {
        byte[] made = noise(count);
        int kinds = 1 + random.nextInt(4);
        int sort = random.nextInt(3);
        for (int k = 0; k < count; k++) {
            if (sort == 0) {
                made[k] = (byte) (made[k] & kinds);
            } else if (sort == 1 && k > 10 && made[k] > -100) {
                made[k] = made[k - 1 - kinds * 2];
            }
        }
        return made;
    }

    private void feed(byte[] bytes, int place) {
        int[] f = new int[5];
        for (int k = 0; k < 20; k++) {
            f[k / 4] = f[k / 4] << 8 | (place + k < bytes.length ? bytes[place + k] & 255 : 0);
        }
        both("feed", () -> {
            x.feed(f[0], f[1], f[2], f[3], f[4]);
            return null;
        }, () -> {
            model.feed(f);
            return null;
        });
    }

    private boolean end(int n) {
        return both("end(" + n + ")", () -> x.end(n), () -> model.end(n));
    }

    private boolean pack() {
        return both("pack()", x::pack, model::pack);
    }

    private boolean back() {
        return both("back()", x::back, model::back);
    }

    /** Makes the tape be these bytes. */
    private void tape(byte[] bytes) {
        end(0);
        for (int k = 0; k < bytes.length; k += 20) {
            feed(bytes, k);
        }
        end(bytes.length);
    }

    private byte[] perhapsSpoilt(byte[] bytes) {
        byte[] made = bytes.clone();
        if (made.length > 0 && random.nextInt(3) == 0) {
            made[random.nextInt(made.length)] = (byte) random.nextInt(256);
        }
        return random.nextInt(8) == 0 ? Arrays.copyOf(made, random.nextInt(made.length + 2)) : made;
    }

    private void packSome() {
        tape(compressible(random.nextInt(300)));
        if (pack() && random.nextBoolean() && back()) {
            both("unpack()", x::unpack, model::unpack);
        }
    }

    private void unpackSome() {
        tape(perhapsSpoilt(Model.packed(compressible(random.nextInt(60)))));
        both("unpack()", x::unpack, model::unpack);
    }

    /** Makes out long, or all but full, in few calls, with distances that pack would not take. */
    private void blowUp() {
        byte[] base = noise(1 + random.nextInt(60));
        int whole = random.nextInt(4) == 0 ? Put.LIMIT + 1 - random.nextInt(8) : 5000 + random.nextInt(27000);
        ByteArrayOutputStream packed = new ByteArrayOutputStream();
        packed.writeBytes(Put.varint(whole));
        packed.writeBytes(Put.varint(2 * base.length));
        packed.writeBytes(base);
        packed.writeBytes(Put.varint(2 * (whole - base.length) + 1));
        packed.writeBytes(Put.varint(1 + random.nextInt(base.length)));
        tape(packed.toByteArray());
        both("unpack()", x::unpack, model::unpack);
        if (random.nextBoolean() && back() && random.nextBoolean()) {
            pack();
        }
    }

    private void textOfSome() {
        int[] characters = new int[random.nextInt(30)];
        for (int k = 0; k < characters.length; k++) {
            characters[k] = character();
        }
        byte[] utf8 = new String(characters, 0, characters.length).getBytes(StandardCharsets.UTF_8);
        tape(perhapsSpoilt(utf8));
        both("text()", x::text, model::text);
    }

    private int character() {
        int[] most = {128, 2048, 55296, 65536, 1114112};
        int drawn = random.nextInt(most[random.nextInt(most.length)]);
        return drawn >= 55296 && drawn <= 57343 ? 57344 : drawn;
    }

    private void numbersOfSome() {
        ByteArrayOutputStream all = new ByteArrayOutputStream();
        int count = random.nextInt(20);
        for (int k = 0; k < count; k++) {
            all.writeBytes(Put.varint(random.nextInt() >>> 1 + random.nextInt(31)));
        }
        tape(perhapsSpoilt(all.toByteArray()));
        both("numbers()", x::numbers, model::numbers);
    }

    private void letters() {
        for (int k = random.nextInt(6); k >= 0; k--) {
            int c = random.nextInt(3) == 0 ? edgy(1114111) : character();
            both("letter(" + c + ")", () -> x.letter(c), () -> model.letter(c));
        }
    }

    private void varints() {
        for (int k = random.nextInt(6); k >= 0; k--) {
            int n = random.nextInt() >> random.nextInt(32);
            both("varint(" + n + ")", () -> x.varint(n), () -> model.varint(n));
        }
    }

    private void zigzags() {
        int n = random.nextInt() >> random.nextInt(32);
        both("zigzag(" + n + ")", () -> x.zigzag(n), () -> model.zigzag(n));
        both("unzigzag(" + n + ")", () -> x.unzigzag(n), () -> model.unzigzag(n));
    }

    private void look() {
        both("octet(-1)", () -> x.octet(-1), () -> model.octet(-1));
        int length = model.octet(-1);
        both("checksum(all)", () -> x.checksum(length), () -> model.checksum(length));
        int n = edgy(length);
        both("checksum(" + n + ")", () -> x.checksum(n), () -> model.checksum(n));
        int place = edgy(length);
        both("octet(" + place + ")", () -> x.octet(place), () -> model.octet(place));
        int c = edgy(model.codeCount());
        both("code(" + c + ")", () -> x.code(c), () -> model.code(c));
        int k = edgy(model.numberCount());
        both("number(" + k + ")", () -> x.number(k), () -> model.number(k));
    }
}
