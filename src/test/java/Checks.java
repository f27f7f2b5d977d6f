/** Counts the answers of one test that are not as due. */
final class Checks {
    static final int UNKNOWN = -1, OUTSIDE = -2, FULL = -4, NONE = -9;
    private int looked = 0;
    private int wrong = 0;

    void due(String call, long got, long want) {
        looked++;
        if (got == want) return;
        wrong++;
        System.out.println(call + " answered " + got + ", due is " + want);
    }

    void end(String test) {
        System.out.println(test + ": " + looked + " answers, " + wrong + " of them wrong");
        if (wrong != 0) System.exit(1);
    }
}
