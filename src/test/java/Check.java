/** Counts the answers of one test's run that are not as due. */
final class Check {
    private static int asked = 0;
    private static int wrong = 0;
    private static String sentence = "";

    private Check() {
    }

    /** Names the document's sentence that the answers from here on are due by, so that a wrong one tells it. */
    static void says(String words) {
        sentence = "\"" + words + "\": ";
    }

    static void due(String what, long got, long want) {
        asked++;
        if (got != want) {
            wrong++;
            System.out.println(sentence + what + " answered " + got + ", due is " + want);
        }
    }

    static void due(String what, String got, String want) {
        asked++;
        if (!got.equals(want)) {
            wrong++;
            System.out.println(sentence + what + "\n  is  " + got + "\n  due " + want);
        }
    }

    /** Ends the test's program with exit code 1 if an answer was wrong, or if none was asked. */
    static void finish() {
        System.out.println(asked + " answers, " + wrong + " of them wrong");
        if (wrong != 0 || asked == 0) {
            System.exit(1);
        }
    }

    static int shareOrThrown(SegmentMerges x) {
        try {
            return x.share();
        } catch (ArithmeticException e) {
            // the machine's own exception is no answer
            due("share() threw what the machine throws", "/ by zero".equals(e.getMessage()) ? 1 : 0, 0);
            return Model.THROWN;
        }
    }
}
