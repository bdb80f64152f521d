import java.util.function.IntSupplier;

/** Counts and prints the calls whose answers are not the ones that are due. */
final class Check {
    private static int wrong = 0;
    private static int asked = 0;
    private static int sentences = 0;
    private static String sentence = "";

    private Check() {
    }

    /** The document's words that the checks behind this call stand for, until the next such call. */
    static void sentence(String words) {
        sentences++;
        sentence = " [" + words + "]";
    }

    static void due(String call, int want, IntSupplier asking) {
        compare(call, Integer.toString(want), answerOf(asking));
    }

    static void illegalArgument(String call, IntSupplier asking) {
        compare(call, "throws.IllegalArgumentException", answerOf(asking));
    }

    static void illegalState(String call, IntSupplier asking) {
        compare(call, "throws.IllegalStateException", answerOf(asking));
    }

    /** The exact class counts: a subclass such as NumberFormatException would be another answer. */
    static String answerOf(IntSupplier asking) {
        try {
            return Integer.toString(asking.getAsInt());
        } catch (Throwable thrown) {
            return "throws." + thrown.getClass().getSimpleName();
        }
    }

    static void compare(String call, String want, String got) {
        asked++;
        if (!got.equals(want)) {
            wrong++;
            System.out.println(call + " answered " + got + ", due is " + want + sentence);
        }
    }

    static void end() {
        String of = sentences == 0 ? "" : " for " + sentences + " sentences";
        System.out.println(asked + " answers" + of + ", " + wrong + " not as due");
        if (wrong != 0) {
            System.exit(1);
        }
    }
}
