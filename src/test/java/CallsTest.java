import java.util.Map;
import java.util.TreeMap;
import java.util.concurrent.Callable;

/** What the document says of all calls: that they change nothing when they throw, and that there may be 512. */
public final class CallsTest {
    private static final Due DUE = new Due("CallsTest");
    private static final int LEAST = Integer.MIN_VALUE;
    private static final int GREATEST = Integer.MAX_VALUE;
    private static final String STATE = "throws java.lang.IllegalStateException";
    private static final String ARGUMENT = "throws java.lang.IllegalArgumentException";
    private static final String ELEMENT = "throws java.util.NoSuchElementException";

    public static void main(String[] args) {
        wrongArguments();
        noRoomOnTheTape();
        noRoomInOut();
        noRoomForThePacked();
        tapeIsEmptyInAnyCase();
        callsThatOnlyTell();
        lastOf512Calls();
        DUE.finish();
    }

    private static Object feed(PackColumns x) {
        x.feed(1, 2, 3, 4, 5);
        return null;
    }

    private static void changesNothing(String what, Held h, Callable<?> call, Object want) {
        for (int time = 1; time <= 3; time++) {
            DUE.answers(what + ", time " + time, call, want);
        }
        h.check(DUE, what);
    }

    private static void wrongArguments() {
        DUE.sentence("a call that throws changes nothing but what is told (wrong arguments)");
        int[][] lengths = {{0, 0}, {1, 1}, {5, 3}, {3000, 32768}, {32768, 20}};
        for (int[] pair : lengths) {
            byte[] tape = Put.repeat(3, pair[0]);
            byte[] out = Put.repeat(4, pair[1]);
            int[] numbers = {LEAST, -1};
            for (int n : numbers) {
                wrongArguments(n, tape, out);
            }
            Held end = new Held(tape, out);
            changesNothing("end of one more", end, () -> end.x.end(tape.length + 1), ARGUMENT);
            Held checksum = new Held(tape, out);
            changesNothing("checksum of one more", checksum, () -> checksum.x.checksum(out.length + 1), ARGUMENT);
            Held octet = new Held(tape, out);
            changesNothing("the octet behind", octet, () -> octet.x.octet(out.length), ELEMENT);
            Held below = new Held(tape, out);
            changesNothing("octet(-2)", below, () -> below.x.octet(-2), ELEMENT);
            Held code = new Held(tape, out);
            changesNothing("the code behind", code, () -> code.x.code(3), ELEMENT);
            Held number = new Held(tape, out);
            changesNothing("the number behind", number, () -> number.x.number(3), ELEMENT);
            Held zigzag = new Held(tape, out);
            changesNothing("zigzag(greatest)", zigzag, () -> zigzag.x.zigzag(GREATEST), ARGUMENT);
            Held letter = new Held(tape, out);
            changesNothing("letter(55296)", letter, () -> letter.x.letter(55296), ARGUMENT);
        }
    }

    private static void wrongArguments(int below, byte[] tape, byte[] out) {
        Held end = new Held(tape, out);
        changesNothing("end(" + below + ")", end, () -> end.x.end(below), ARGUMENT);
        Held code = new Held(tape, out);
        changesNothing("code(" + below + ")", code, () -> code.x.code(below), ELEMENT);
        Held letter = new Held(tape, out);
        changesNothing("letter(" + below + ")", letter, () -> letter.x.letter(below), ARGUMENT);
        Held varint = new Held(tape, out);
        changesNothing("varint(" + below + ")", varint, () -> varint.x.varint(below), ARGUMENT);
        Held unzigzag = new Held(tape, out);
        changesNothing("unzigzag(" + below + ")", unzigzag, () -> unzigzag.x.unzigzag(below), ARGUMENT);
        Held number = new Held(tape, out);
        changesNothing("number(" + below + ")", number, () -> number.x.number(below), ELEMENT);
        Held checksum = new Held(tape, out);
        changesNothing("checksum(" + below + ")", checksum, () -> checksum.x.checksum(below), ARGUMENT);
    }

    private static void noRoomOnTheTape() {
        DUE.sentence("a call that throws changes nothing but what is told (feed, back)");
        Held feed = new Held(Put.stubborn(32749), Put.bytes(1, 2, 3));
        changesNothing("feed", feed, () -> feed(feed.x), STATE);
        Held back = new Held(Put.stubborn(32766), Put.bytes(1, 2, 3));
        changesNothing("back", back, back.x::back, STATE);
    }

    private static void noRoomInOut() {
        DUE.sentence("a call that throws changes nothing but what is told (letter, varint)");
        Held letter = new Held(Put.bytes(1, 2, 3), Put.stubborn(32765));
        changesNothing("letter", letter, () -> letter.x.letter(65536), STATE);
        Held varint = new Held(Put.bytes(1, 2, 3), Put.stubborn(32764));
        changesNothing("varint", varint, () -> varint.x.varint(268435456), STATE);
    }

    private static void noRoomForThePacked() {
        DUE.sentence("pack: out and tape stay");
        Held none = new Held(Put.stubborn(32768), Put.bytes());
        changesNothing("pack, out being empty", none, none.x::pack, STATE);
        Held some = new Held(Put.stubborn(32763), Put.stubborn(60));
        changesNothing("pack, out having 60", some, some.x::pack, STATE);
    }

    /** Bytes that are no PACKED bytes, no UTF-8 and no varints, short and long, wrong at once or at the end. */
    private static void tapeIsEmptyInAnyCase() {
        DUE.sentence("The tape is empty then in any case (unpack, text, numbers)");
        byte[][] tapes = {
            Put.bytes(128), Put.bytes(2, 2, 128), Put.join(Put.repeat(65, 3000), Put.bytes(255)),
            Put.join(Put.repeat(65, 32767), Put.bytes(255)), Put.repeat(255, 32768)
        };
        for (byte[] tape : tapes) {
            for (int length = 0; length <= 2; length++) {
                byte[] out = Put.repeat(9, length);
                Held unpack = new Held(tape, out);
                DUE.illegalArgument("unpack", unpack.x::unpack);
                unpack.tapeIsEmpty().check(DUE, "unpack of " + tape.length);
                Held text = new Held(tape, out);
                DUE.illegalArgument("text", text.x::text);
                text.tapeIsEmpty().check(DUE, "text of " + tape.length);
                Held numbers = new Held(tape, out);
                DUE.illegalArgument("numbers", numbers.x::numbers);
                numbers.tapeIsEmpty().check(DUE, "numbers of " + tape.length);
            }
        }
    }

    private static void callsThatOnlyTell() {
        DUE.sentence("code, zigzag, unzigzag, number, checksum, octet: no change is told");
        byte[] tape = Put.bytes(4, 5, 6);
        byte[] out = Put.bytes(7, 8);
        Held code = new Held(tape, out);
        changesNothing("code(2)", code, () -> code.x.code(2), 1114111);
        Held number = new Held(tape, out);
        changesNothing("number(2)", number, () -> number.x.number(2), GREATEST);
        Held zigzag = new Held(tape, out);
        changesNothing("zigzag(-3)", zigzag, () -> zigzag.x.zigzag(-3), 5);
        Held unzigzag = new Held(tape, out);
        changesNothing("unzigzag(5)", unzigzag, () -> unzigzag.x.unzigzag(5), -3);
        Held checksum = new Held(tape, out);
        changesNothing("checksum(2)", checksum, () -> checksum.x.checksum(2), Put.crc(out));
        Held octet = new Held(tape, out);
        changesNothing("octet(-1)", octet, () -> octet.x.octet(-1), 2);
        Held first = new Held(tape, out);
        changesNothing("octet(0)", first, () -> first.x.octet(0), 7);
    }

    /** Two numbers, three codes, three bytes in out and 501 times twenty bytes on the tape: 511 calls in all. */
    private static PackColumns after511Calls() {
        PackColumns x = new PackColumns();
        x.varint(300);
        x.varint(7);
        x.back();
        x.numbers();
        x.varint(7);
        x.varint(8);
        x.varint(9);
        x.back();
        x.text();
        x.letter(65535);
        for (int call = 11; call <= 511; call++) {
            x.feed(0x05050505, 0x05050505, 0x05050505, 0x05050505, 0x05050505);
        }
        return x;
    }

    private static void lastOf512Calls() {
        DUE.sentence("An object is used for at most 512 calls after it has been made");
        int tape = 20 * 501;
        byte[] out = Put.bytes(239, 191, 191);
        Map<String, Object> want = new TreeMap<>();
        want.put("back", tape + 3);
        want.put("checksum", Put.crc(out));
        want.put("code", 9);
        want.put("end", tape - 1);
        want.put("feed", "nothing");
        want.put("letter", 4);
        want.put("number", 300);
        want.put("numbers", tape);
        want.put("octet", 191);
        want.put("octet none", ELEMENT);
        want.put("pack", Model.packed(Put.repeat(5, tape)).length);
        want.put("text", tape);
        want.put("unpack", ARGUMENT);
        want.put("unzigzag", -2);
        want.put("varint", 5);
        want.put("zigzag", 3);
        for (Map.Entry<String, Object> each : want.entrySet()) {
            PackColumns x = after511Calls();
            DUE.answers("the 512th call: " + each.getKey(), () -> call(x, each.getKey()), each.getValue());
        }
    }

    private static Object call(PackColumns x, String name) {
        return switch (name) {
            case "back" -> x.back();
            case "checksum" -> x.checksum(3);
            case "code" -> x.code(2);
            case "end" -> x.end(1);
            case "feed" -> feed(x);
            case "letter" -> x.letter(65536);
            case "number" -> x.number(0);
            case "numbers" -> x.numbers();
            case "octet" -> x.octet(2);
            case "octet none" -> x.octet(3);
            case "pack" -> x.pack();
            case "text" -> x.text();
            case "unpack" -> x.unpack();
            case "unzigzag" -> x.unzigzag(3);
            case "varint" -> x.varint(GREATEST);
            case "zigzag" -> x.zigzag(-2);
            default -> "no such call";
        };
    }
}
