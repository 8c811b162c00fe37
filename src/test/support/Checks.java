import java.util.function.IntSupplier;

/** How a test says which sentence of the document it looks at, and what is due by it. */
final class Checks {
    /** Stand for an exception among the answers; no answer of the class is so high. */
    static final int INDEX = 1_000_001;
    static final int ARITHMETIC = 1_000_002;
    private static final int OTHER = 1_000_003;

    private static final int PROMISES = 24;
    private static final int[] TOLD = new int[PROMISES + 1];
    private static int promise = 0;
    private static String sentence = "";
    private static int sentences = 0;
    private static int checks = 0;
    private static int wrong = 0;

    private Checks() {
    }

    /** What follows is due by this sentence of the document. */
    static void says(int number, String words) {
        promise = number;
        sentence = words;
        sentences++;
        TOLD[number]++;
    }

    static void due(String call, int got, int want) {
        checks++;
        if (got != want) {
            wrong++;
            System.out.println("promise " + promise + " (" + sentence + "): " + call + " answered " + named(got)
                + ", due is " + named(want));
        }
    }

    private static String named(int answer) {
        switch (answer) {
            case INDEX: return "ArrayIndexOutOfBoundsException";
            case ARITHMETIC: return "ArithmeticException";
            case OTHER: return "an exception that is never due";
            default: return "" + answer;
        }
    }

    /** The answer, or the number that stands for what the class threw by a throw of its own. */
    static int answer(IntSupplier call) {
        try {
            return call.getAsInt();
        } catch (RuntimeException e) {
            if (isOfTheMachine(e)) {
                return OTHER;
            }
            if (e.getClass() == ArrayIndexOutOfBoundsException.class) {
                return INDEX;
            }
            return e.getClass() == ArithmeticException.class ? ARITHMETIC : OTHER;
        }
    }

    /** The machine's own exceptions bear texts of its own, or none. */
    static boolean isOfTheMachine(RuntimeException e) {
        String text = e.getMessage();
        return text == null || text.startsWith("Index ") || text.startsWith("/ by")
            || text.startsWith("arraycopy") || text.startsWith("Cannot");
    }

    /** Ends the test: wrong too, if one of these promises had no sentence at all. */
    static void end(int firstPromise, int lastPromise) {
        for (int number = firstPromise; number <= lastPromise; number++) {
            if (TOLD[number] == 0) {
                wrong++;
                System.out.println("promise " + number + " has no test");
            }
        }
        System.out.println(sentences + " sentences, " + checks + " checks, " + wrong + " wrong");
        if (wrong != 0) {
            System.exit(1);
        }
    }
}
