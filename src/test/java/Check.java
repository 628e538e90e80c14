import java.util.Arrays;

/**
 * Counts and prints the answers that are not as due; each test ends with finish(). A test that goes
 * through the document's sentences names each of them ahead of what it asks about it.
 */
final class Check {
    private static final int PRINTED = 40;
    private static int wrong = 0;
    private static int asked = 0;
    private static String sentence = "";
    private static int askedAhead = 0;

    private Check() {
    }

    static void sentence(String words) {
        closeSentence();
        sentence = words;
        askedAhead = asked;
    }

    static void due(String call, int got, int want) {
        asked++;
        if (got != want) {
            tell(call + " answered " + got + ", due is " + want);
        }
    }

    static void due(String call, boolean got, boolean want) {
        asked++;
        if (got != want) {
            tell(call + " answered " + got + ", due is " + want);
        }
    }

    static void due(String call, int[] got, int[] want) {
        asked++;
        if (!Arrays.equals(got, want)) {
            tell(call + " answered " + Arrays.toString(got) + ", due is " + Arrays.toString(want));
        }
    }

    static void finish() {
        closeSentence();
        System.out.println(asked + " answers asked, " + wrong + " not as due");
        if (wrong > 0 || asked == 0) {
            System.exit(1);
        }
    }

    private static void closeSentence() {
        if (!sentence.isEmpty() && asked == askedAhead) {
            tell("nothing was asked");
        }
        sentence = "";
    }

    private static void tell(String text) {
        wrong++;
        if (wrong <= PRINTED) {
            System.out.println((sentence.isEmpty() ? "" : "'" + sentence + "': ") + text);
        }
    }
}
