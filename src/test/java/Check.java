/** Counts the answers of one test's run that are not as due. */
final class Check {
    private static int asked = 0;
    private static int wrong = 0;

    private Check() {
    }

    static void due(String what, long got, long want) {
        asked++;
        if (got != want) {
            wrong++;
            System.out.println(what + " answered " + got + ", due is " + want);
        }
    }

    /** Ends the test's program with exit code 1 if an answer was wrong, or if none was asked. */
    static void finish() {
        System.out.println(asked + " answers, " + wrong + " of them wrong");
        if (wrong != 0 || asked == 0) {
            System.exit(1);
        }
    }

    /** A new segment of rows (key, value), in the order in which they are put. */
    static int flushed(SegmentMerges x, int... rows) {
        for (int i = 0; i + 1 < rows.length; i += 2) {
            x.put(rows[i], rows[i + 1]);
        }
        return x.flush();
    }

    static int shareOrThrown(SegmentMerges x) {
        try {
            return x.share();
        } catch (ArithmeticException e) {
            // the machine's own exception is no answer
            due("share() threw what the machine throws", "/ by zero".equals(e.getMessage()) ? 1 : 0, 0);
            return Integer.MIN_VALUE;
        }
    }
}
