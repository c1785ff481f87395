import java.util.ArrayList;
import java.util.List;
import java.util.NoSuchElementException;
import java.util.function.Supplier;

/** What the tests of sentences share: each names a promise and the sentence of the document that it stands for. */
abstract class Checks {
    interface Body {
        void check();
    }

    interface Call {
        void on(LotInspector x);
    }

    static final Class<?> PLACE = IndexOutOfBoundsException.class;
    static final Class<?> NUMBER = IllegalArgumentException.class;
    static final Class<?> STATE = IllegalStateException.class;
    static final Class<?> NOTHING = NoSuchElementException.class;
    static final Class<?> SHARE = ArithmeticException.class;
    static final Class<?> NOT_TAKEN = UnsupportedOperationException.class;
    static final int MIN = Integer.MIN_VALUE;
    static final int MAX = Integer.MAX_VALUE;

    static final Document DOCUMENT = Document.read();
    private static final List<String> PASSED = new ArrayList<>();
    private static final List<String> FAILED = new ArrayList<>();
    private static final List<String> WRONG = new ArrayList<>();

    static void test(int promise, String sentence, Body body) {
        String name = "promise " + promise + ", \"" + sentence + "\"";
        WRONG.clear();
        if (!DOCUMENT.quote(promise, sentence)) {
            WRONG.add("the document has no such sentence");
        }
        try {
            body.check();
        } catch (RuntimeException e) {
            WRONG.add("threw " + e + " at " + e.getStackTrace()[0]);
        }
        (WRONG.isEmpty() ? PASSED : FAILED).add(name);
        for (String wrong : WRONG) {
            System.out.println(name + ": " + wrong);
        }
    }

    static int passed() {
        return PASSED.size();
    }

    static int failed() {
        return FAILED.size();
    }

    static List<String> passedNames() {
        return PASSED;
    }

    static void due(String call, long got, long want) {
        if (got != want) {
            WRONG.add(call + " answered " + got + ", due is " + want);
        }
    }

    static void due(String call, String got, String want) {
        if (!got.equals(want)) {
            WRONG.add(call + " answered \"" + got + "\", due is \"" + want + "\"");
        }
    }

    /** The call throws exactly this, and the object answers afterwards as one that was never called so. */
    static void refused(String call, Class<?> kind, Supplier<LotInspector> start, Call wrongCall) {
        LotInspector x = start.get();
        due(call + " throws", thrownBy(x, wrongCall), kind.getName());
        due(call + " leaves the state unchanged", States.of(x), States.of(start.get()));
    }

    static String thrownBy(LotInspector x, Call call) {
        try {
            call.on(x);
        } catch (RuntimeException e) {
            return e.getClass().getName();
        }
        return "nothing";
    }

    /** The numbers just beside a range, and the most distant ones. */
    static int[] beside(int least, int most) {
        return new int[] {least - 1, most + 1, MIN, MAX};
    }
}
