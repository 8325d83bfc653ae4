import java.util.Arrays;

/** Compares answers with those that are due, and ends a test with exit code 1 if one was wrong. */
final class Check {
    private static int wrong = 0;
    private static int looked = 0;
    private static String sentence = "";

    private Check() {
    }

    /** The words of the document that the checks from here on are about; a wrong answer is told with them. */
    static void sentence(String words) {
        sentence = "[" + words + "] ";
    }

    static void due(String what, long got, long want) {
        looked++;
        if (got != want) {
            wrong++;
            System.out.println(sentence + what + " answered " + got + ", due is " + want);
        }
    }

    static void row(String what, int[] got, int... want) {
        looked++;
        if (!Arrays.equals(got, want)) {
            wrong++;
            System.out.println(sentence + what + " answered " + Arrays.toString(got) + ", due is " + Arrays.toString(want));
        }
    }

    static void holds(String what, boolean held) {
        looked++;
        if (!held) {
            wrong++;
            System.out.println(sentence + "does not hold: " + what);
        }
    }

    static void end() {
        if (wrong > 0) {
            System.out.println(wrong + " of " + looked + " answers were wrong");
            System.exit(1);
        }
        System.out.println(looked + " answers are as due");
    }
}
