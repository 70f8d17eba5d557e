/** Counts the answers that are not as due, and ends a test accordingly. */
final class Due {
    private static int wrong = 0;
    private static String by = "";

    private Due() {
    }

    /** Says by which words of the document the answers are due from here on. */
    static void sentence(String place, String words) {
        by = place + " \"" + words + "\": ";
    }

    static void due(String call, long got, long want) {
        if (got != want) {
            wrong++;
            System.out.println(by + call + " answered " + got + ", due is " + want);
        }
    }

    static void end() {
        if (wrong != 0) {
            System.out.println(wrong + " answers are not as due");
            System.exit(1);
        }
    }
}
