/** Counts the answers of one test that are not as due, and prints each of them. */
final class Due {
    private int asked;
    private int wrong;

    /** The answer that was got for a call, and the one that the document asks. */
    void is(String call, long got, long want) {
        asked++;
        if (got != want) {
            wrong++;
            System.out.println(call + " answered " + got + ", due is " + want);
        }
    }

    /** A thing that has to hold, told in words. */
    void holds(String what, boolean holding) {
        asked++;
        if (!holding) {
            wrong++;
            System.out.println("does not hold: " + what);
        }
    }

    void close(String test) {
        System.out.println(test + ": " + asked + " answers looked at, " + wrong + " not as due");
        if (wrong != 0 || asked == 0) {
            System.exit(1);
        }
    }
}
