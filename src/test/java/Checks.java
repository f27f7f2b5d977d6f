import java.util.function.IntUnaryOperator;

/** Counts the answers of one test that are not as due. */
final class Checks {
    static final int UNKNOWN = -1, OUTSIDE = -2, FULL = -4, NONE = -9;
    static final int MIN = Integer.MIN_VALUE, MAX = Integer.MAX_VALUE;
    private static final int PROMISES = 24;
    private final int[] lookedAt = new int[PROMISES + 1];
    private String sentence = "";
    private int promise = 0;
    private int looked = 0;
    private int wrong = 0;

    /** What follows is due by this sentence of this promise. */
    void promise(int number, String words) {
        promise = number;
        sentence = "Promise " + number + " (" + words + "): ";
    }

    void due(String call, long got, long want) {
        look(call, Long.toString(got), Long.toString(want));
    }

    /** Numbers just past least and most, and far past them, are all refused with this answer. */
    void refused(String call, int least, int most, int answer, IntUnaryOperator asked) {
        for (int n : new int[] {MIN, least - 1, most + 1, MAX}) due(call + " " + n, asked.applyAsInt(n), answer);
    }

    /** The numbers least and most themselves are taken with this answer. */
    void taken(String call, int least, int most, int answer, IntUnaryOperator asked) {
        for (int n : new int[] {least, most}) due(call + " " + n, asked.applyAsInt(n), answer);
    }

    /** The object answers as it did when before was taken of it. */
    void unchanged(StarLists x, String before) {
        look("the object", stateOf(x), before);
    }

    /** All that tells how an object stands, in some two hundred calls at most. */
    static String stateOf(StarLists x) {
        StringBuilder text = new StringBuilder();
        int limit = x.limit(0);
        x.limit(limit);
        text.append("limit ").append(limit);
        for (int what = 0; what <= 3; what++) text.append(", count ").append(x.count(what));
        for (int star = 0; star < x.count(0); star++) {
            text.append(", star");
            for (int what = 0; what <= 3; what++) text.append(' ').append(x.about(star, what));
        }
        for (int list = 0; list < x.count(1); list++) {
            text.append(", list of ").append(x.best(list, 0, 0));
            for (int line = 0; x.written(list, line, 0) != UNKNOWN; line++) {
                text.append(", line ").append(x.written(list, line, 0)).append(' ').append(x.written(list, line, 1));
            }
        }
        return text.toString();
    }

    private void look(String call, String got, String want) {
        looked++;
        lookedAt[promise]++;
        if (got.equals(want)) return;
        wrong++;
        System.out.println(sentence + call + " answered " + got + ", due is " + want);
    }

    void end(String test) {
        System.out.println(test + ": " + looked + " answers, " + wrong + " of them wrong");
        if (wrong != 0) System.exit(1);
    }

    /** As end, and each of these promises must have been looked at. */
    void end(String test, int... promises) {
        for (int number : promises) {
            if (lookedAt[number] != 0) continue;
            wrong++;
            System.out.println("no answer was looked at for promise " + number);
        }
        end(test);
    }
}
