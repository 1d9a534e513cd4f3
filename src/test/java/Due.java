/** Counts the answers that are not as due, and ends the test with exit code 1 if there was one. */
final class Due {
    private static int asked = 0;
    private static int wrong = 0;
    private static String title = "";

    private Due() {
    }

    /** What stands ahead of each line that is printed from now on. */
    static void title(String next) {
        title = next;
    }

    static int asked() {
        return asked;
    }

    static void is(String call, long got, long want) {
        asked++;
        if (got != want) {
            wrong++;
            System.out.println(title + call + " answered " + got + ", due is " + want);
        }
    }

    static void isTrue(String what, boolean holds) {
        asked++;
        if (!holds) {
            wrong++;
            System.out.println(title + "does not hold: " + what);
        }
    }

    static void end(String test) {
        System.out.println(test + ": " + asked + " answers, " + wrong + " not as due");
        if (wrong != 0 || asked == 0) {
            System.exit(1);
        }
    }
}
