import java.util.concurrent.Callable;

/** Counts and prints the answers that are not the ones that are due. */
final class Due {
    private final String name;
    private String sentence = "";
    private int asked = 0;
    private int wrong = 0;

    Due(String name) {
        this.name = name;
    }

    /** What comes is asked for by these words of the document; they are printed with a wrong answer. */
    void sentence(String words) {
        sentence = " [" + words + "]";
    }

    void same(String what, Object got, Object want) {
        asked++;
        if (!got.equals(want)) {
            wrong++;
            System.out.println(name + ": " + what + " answered " + got + ", due is " + want + sentence);
        }
    }

    /** What a call answers, or the exact name of what it throws. */
    static Object answer(Callable<?> call) {
        try {
            Object got = call.call();
            return got == null ? "nothing" : got;
        } catch (Exception e) {
            return "throws " + e.getClass().getName();
        }
    }

    void answers(String what, Callable<?> call, Object want) {
        same(what, answer(call), want);
    }

    void illegalArgument(String what, Callable<?> call) {
        same(what, answer(call), "throws java.lang.IllegalArgumentException");
    }

    void illegalState(String what, Callable<?> call) {
        same(what, answer(call), "throws java.lang.IllegalStateException");
    }

    void noSuchElement(String what, Callable<?> call) {
        same(what, answer(call), "throws java.util.NoSuchElementException");
    }

    void finish() {
        System.out.println(name + ": " + asked + " answers, " + wrong + " not as due");
        if (wrong != 0) {
            System.exit(1);
        }
    }
}
