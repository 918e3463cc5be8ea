/** Counts and prints the answers that are not as due; every test ends with end(). */
final class Check {
    private static int asked = 0;
    private static int wrong = 0;
    private static int sentences = 0;
    private static int askedBefore = 0;
    private static String sentence = "";

    private Check() {
    }

    /** From here on the answers are due by these words of the document. */
    static void sentence(String words) {
        closeSentence();
        sentences++;
        sentence = words;
    }

    static void due(String what, long got, long want) {
        asked++;
        if (got != want) {
            wrong++;
            String by = sentence.isEmpty() ? "" : " (\"" + sentence + "\")";
            System.out.println(what + " answered " + got + ", due is " + want + by);
        }
    }

    static void due(String what, boolean got, boolean want) {
        due(what, got ? 1 : 0, want ? 1 : 0);
    }

    static int wrong() {
        return wrong;
    }

    static void end(String test) {
        closeSentence();
        String of = sentences == 0 ? "" : " to " + sentences + " sentences";
        System.out.println(test + ": " + asked + " answers" + of + ", " + wrong + " not as due");
        if (wrong != 0 || asked == 0) {
            System.exit(1);
        }
    }

    /** A sentence that nothing was asked of is a test that tests nothing. */
    private static void closeSentence() {
        if (sentences > 0 && asked == askedBefore) {
            wrong++;
            System.out.println("nothing was asked of: " + sentence);
        }
        askedBefore = asked;
    }
}
