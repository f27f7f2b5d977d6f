/** Long runs of calls, each answer held against Model's; the runs are the same each time. */
public final class ModelTest {
    private static final int RUNS = 300, CALLS = 512;
    private static final Checks c = new Checks();

    private long seed;
    private final StarLists x = new StarLists();
    private final Model m = new Model();
    /** Few middles lie close together, so that stars and lines contend. */
    private final int crowd;
    private final int[] longs = new int[8], wides = new int[8];
    private int stars = 0;
    private String told = "";

    private ModelTest(int run) {
        seed = 77L * run + 5;
        crowd = run % 4;
        for (int i = 0; i < 8; i++) {
            longs[i] = crowd == 0 ? pick(0, 21599) : Math.floorMod(pick(-25 * crowd, 25 * crowd), 21600);
            wides[i] = crowd == 0 ? pick(-5400, 5400) : pick(-20 * crowd, 20 * crowd) + (run % 3) * pick(0, 1) * 300;
        }
    }

    public static void main(String[] args) {
        for (int run = 0; run < RUNS; run++) new ModelTest(run).run(run);
        c.end("ModelTest");
    }

    private int pick(int low, int high) {
        seed = seed * 6364136223846793005L + 1442695040888963407L;
        return low + (int) Math.floorMod(seed >>> 33, (long) (high - low + 1));
    }

    private void run(int run) {
        for (int call = 0; call < CALLS; call++) {
            told = "";
            long[] both = call < 40 ? build() : pick(0, 9) == 0 ? build() : ask();
            c.due("run " + run + ", call " + call + " " + told, both[0], both[1]);
        }
    }

    private long[] both(String name, long got, long want, int... numbers) {
        StringBuilder text = new StringBuilder(name);
        for (int n : numbers) text.append(' ').append(n);
        told = text.toString();
        return new long[] {got, want};
    }

    /** A number as told, but now and then one that lies on or past the edge. */
    private int near(int low, int high) {
        if (pick(0, 39) != 0) return pick(low, high);
        switch (pick(0, 5)) {
            case 0: return low - 1;
            case 1: return high + 1;
            case 2: return low;
            case 3: return high;
            case 4: return Integer.MIN_VALUE;
            default: return Integer.MAX_VALUE;
        }
    }

    private int aStar() {
        return near(0, Math.max(0, stars - 1));
    }

    private int aList() {
        return near(0, Math.max(0, m.count(1) - 1));
    }

    private int aLine() {
        return near(0, 6);
    }

    private int aYear() {
        return pick(0, 2) == 0 ? near(-3000, 3000) : near(-60, 60);
    }

    private int aShift() {
        switch (pick(0, 3)) {
            case 0: return near(-600, 600);
            case 1: return 0;
            case 2: return 600 * pick(-1, 1);
            default: return near(-30, 30);
        }
    }

    private long[] build() {
        int kind = pick(0, 19);
        if (kind < 5) {
            int a = near(0, 21599), b = near(-5400, 5400), d = near(-50, 50), e = near(0, 6);
            if (pick(0, 9) != 0) {
                a = longs[stars % 8];
                b = wides[stars % 8];
            }
            long[] answers = both("star", x.star(a, b, d, e), m.star(a, b, d, e), a, b, d, e);
            stars = m.count(0);
            return answers;
        }
        if (kind < 7) return both("list", x.list(), m.list());
        if (kind == 7) {
            int n = near(0, 6);
            return both("limit", x.limit(n), m.limit(n), n);
        }
        int list = aList(), line = aLine(), i = pick(0, 7);
        int at = Math.floorMod(longs[i] + pick(-31, 31), 21600), wide = wides[i] + pick(-31, 31);
        switch (pick(0, 7)) {
            case 0: wide = -wide; break;
            case 1: at = Math.floorMod(at + 1800, 21600); break;
            case 2: at = Math.floorMod(at - 1800, 21600); break;
            case 3: at = Math.floorMod(at + 600 * pick(-1, 1), 21600); break;
            case 4: wide += 600 * pick(-1, 1); break;
            case 5: at = pick(0, 9) == 0 ? near(0, 21599) : at; break;
            default: break;
        }
        if (kind < 17) return both("line", x.line(list, at, wide), m.line(list, at, wide), list, at, wide);
        return both("mend", x.mend(list, line, at, wide), m.mend(list, line, at, wide), list, line, at, wide);
    }

    private long[] ask() {
        int kind = pick(0, 18), year = aYear(), shift = aShift(), list = aList(), line = aLine(), star = aStar();
        int other = aList();
        switch (kind) {
            case 0: return both("sky", x.sky(star, year), m.sky(star, year), star, year);
            case 1: return small();
            case 2: return both("round", x.round(list, year), m.round(list, year), list, year);
            case 3: case 4:
                return both("slip", x.slip(list, line, star, year, shift), m.slip(list, line, star, year, shift),
                    list, line, star, year, shift);
            case 5: case 6:
                return both("cost", x.cost(list, line, star, year, shift), m.cost(list, line, star, year, shift),
                    list, line, star, year, shift);
            case 7: case 8:
                return both("best", x.best(list, year, shift), m.best(list, year, shift), list, year, shift);
            case 9: case 10:
                return both("matched", x.matched(list, line, year, shift), m.matched(list, line, year, shift),
                    list, line, year, shift);
            case 11: case 12: return years(list, shift);
            case 13: return both("shift", x.shift(list, year), m.shift(list, year), list, year);
            case 14: return both("fault", x.fault(list, star, year, shift), m.fault(list, star, year, shift),
                list, star, year, shift);
            case 15: return both("share", x.share(list, other, year, shift), m.share(list, other, year, shift),
                list, other, year, shift);
            case 16: return both("apart", x.apart(list, other, year, shift), m.apart(list, other, year, shift),
                list, other, year, shift);
            case 17: return both("tree", x.tree(year, shift), m.tree(year, shift), year, shift);
            default: return both("row", x.row(line, year, shift), m.row(line, year, shift), line, year, shift);
        }
    }

    private long[] small() {
        int a = near(0, 21599), b = near(0, 21599), what = near(0, 3), list = aList(), line = aLine(), star = aStar();
        switch (pick(0, 3)) {
            case 0: return both("way", x.way(a, b), m.way(a, b), a, b);
            case 1: return both("about", x.about(star, what), m.about(star, what), star, what);
            case 2: return both("count", x.count(what), m.count(what), what);
            default:
                int which = near(0, 1);
                return both("written", x.written(list, line, which), m.written(list, line, which), list, line, which);
        }
    }

    private long[] years(int list, int shift) {
        int from = near(-300, 0), to = from + near(0, 410), slack = near(0, 200);
        if (pick(0, 1) == 0) {
            return both("dated", x.dated(list, shift, from, to), m.dated(list, shift, from, to), list, shift, from, to);
        }
        return both("doubt", x.doubt(list, shift, from, to, slack), m.doubt(list, shift, from, to, slack),
            list, shift, from, to, slack);
    }
}
