import java.util.ArrayList;
import java.util.Arrays;
import java.util.List;

/** The document once more, in the plainest way: every match is tried, every tree's row is sought. */
final class Model {
    private static final int UNKNOWN = -1, OUTSIDE = -2, FULL = -4, NONE = -9;

    private final List<int[]> stars = new ArrayList<>();
    private final List<List<int[]>> lists = new ArrayList<>();
    private int limit = 6;

    private static boolean in(int n, int low, int high) {
        return low <= n && n <= high;
    }

    private static boolean place(int longitude, int wide) {
        return in(longitude, 0, 21599) && in(wide, -5400, 5400);
    }

    private static boolean moment(int year, int shift) {
        return in(year, -3000, 3000) && in(shift, -600, 600);
    }

    private boolean noStar(int s) {
        return !in(s, 0, stars.size() - 1);
    }

    private boolean noList(int l) {
        return !in(l, 0, lists.size() - 1);
    }

    private boolean noLine(int l, int i) {
        return noList(l) || !in(i, 0, lists.get(l).size() - 1);
    }

    int star(int longitude, int wide, int motion, int light) {
        if (!place(longitude, wide) || !in(motion, -50, 50) || !in(light, 0, 6)) return OUTSIDE;
        if (stars.size() == 8) return FULL;
        stars.add(new int[] {longitude, wide, motion, light});
        return stars.size() - 1;
    }

    int sky(int s, int year) {
        if (noStar(s)) return UNKNOWN;
        if (!in(year, -3000, 3000)) return OUTSIDE;
        int[] star = stars.get(s);
        int at = star[0] + (int) Math.floor(5.0 * year / 6.0 + 1e-9) + (int) Math.floor(star[2] * year / 100.0 + 1e-9);
        while (at < 0) at += 21600;
        while (at >= 21600) at -= 21600;
        return at;
    }

    int about(int s, int what) {
        if (noStar(s)) return UNKNOWN;
        if (!in(what, 0, 3)) return OUTSIDE;
        int[] star = stars.get(s);
        return new int[] {star[0], star[2], star[3], star[1] + 5400}[what];
    }

    int limit(int n) {
        if (!in(n, 0, 6)) return OUTSIDE;
        int was = limit;
        limit = n;
        return was;
    }

    int way(int from, int to) {
        if (!in(from, 0, 21599) || !in(to, 0, 21599)) return OUTSIDE;
        return lead(from, to) + 10800;
    }

    private static int lead(int from, int to) {
        int d = to - from;
        while (d < -10800) d += 21600;
        while (d > 10799) d -= 21600;
        return d;
    }

    int list() {
        if (lists.size() == 6) return FULL;
        lists.add(new ArrayList<>());
        return lists.size() - 1;
    }

    int line(int l, int longitude, int wide) {
        if (noList(l)) return UNKNOWN;
        if (!place(longitude, wide)) return OUTSIDE;
        if (lists.get(l).size() == 8) return FULL;
        lists.get(l).add(new int[] {longitude, wide});
        return lists.get(l).size() - 1;
    }

    int written(int l, int i, int what) {
        if (noLine(l, i)) return UNKNOWN;
        if (!in(what, 0, 1)) return OUTSIDE;
        return lists.get(l).get(i)[what] + (what == 1 ? 5400 : 0);
    }

    int mend(int l, int i, int longitude, int wide) {
        if (noLine(l, i)) return UNKNOWN;
        if (!place(longitude, wide)) return OUTSIDE;
        return lists.get(l).set(i, new int[] {longitude, wide})[0];
    }

    int round(int l, int part) {
        if (noList(l)) return UNKNOWN;
        if (!in(part, 2, 1800)) return OUTSIDE;
        return (int) lists.get(l).stream().filter(line -> line[0] % part == 0).count();
    }

    /** Slip and cost of a line against a star, or null. */
    private int[] slipped(int l, int i, int s, int year, int shift) {
        int d = lead(sky(s, year) + shift, lists.get(l).get(i)[0]);
        int wide = lists.get(l).get(i)[1], starWide = stars.get(s)[1];
        int e = wide - starWide;
        int[][] ways = {{0, d, e, 0}, {1, d, wide + starWide, 40}, {2, d - 1800, e, 50}, {2, d + 1800, e, 50},
            {3, d - 600, e, 45}, {3, d + 600, e, 45}, {3, d, e - 600, 45}, {3, d, e + 600, 45}};
        int[] found = null;
        for (int[] w : ways) {
            if (Math.abs(w[1]) > 30 || Math.abs(w[2]) > 30) continue;
            int cost = Math.abs(w[1]) + Math.abs(w[2]) + w[3];
            if (found == null || cost < found[1]) found = new int[] {w[0], cost};
        }
        return found;
    }

    private int slipOrCost(int l, int i, int s, int year, int shift, int which) {
        if (noLine(l, i) || noStar(s)) return UNKNOWN;
        if (!moment(year, shift)) return OUTSIDE;
        int[] found = slipped(l, i, s, year, shift);
        return found == null ? NONE : found[which];
    }

    int slip(int l, int i, int s, int year, int shift) {
        return slipOrCost(l, i, s, year, shift, 0);
    }

    int cost(int l, int i, int s, int year, int shift) {
        return slipOrCost(l, i, s, year, shift, 1);
    }

    /** All matches are tried in the order that is told of like ones, so the first of the least is it. */
    private final class Search {
        final int[][] costs;
        final int[] now, best;
        final boolean[] used = new boolean[8];
        int least = Integer.MAX_VALUE;

        Search(int l, int year, int shift) {
            int lines = lists.get(l).size();
            now = new int[lines];
            best = new int[lines];
            costs = new int[lines][stars.size()];
            for (int i = 0; i < lines; i++) {
                for (int s = 0; s < stars.size(); s++) {
                    int[] found = stars.get(s)[3] > limit ? null : slipped(l, i, s, year, shift);
                    costs[i][s] = found == null ? NONE : found[1];
                }
            }
            go(0, 0);
        }

        void go(int i, int cost) {
            if (cost >= least) return;
            if (i == now.length) {
                least = cost;
                System.arraycopy(now, 0, best, 0, now.length);
                return;
            }
            for (int s = 0; s < stars.size(); s++) {
                if (used[s] || costs[i][s] == NONE) continue;
                used[s] = true;
                now[i] = s;
                go(i + 1, cost + costs[i][s]);
                used[s] = false;
            }
            now[i] = NONE;
            go(i + 1, cost + 100);
        }
    }

    int best(int l, int year, int shift) {
        if (noList(l)) return UNKNOWN;
        if (!moment(year, shift)) return OUTSIDE;
        return new Search(l, year, shift).least;
    }

    int matched(int l, int i, int year, int shift) {
        if (noLine(l, i)) return UNKNOWN;
        if (!moment(year, shift)) return OUTSIDE;
        return new Search(l, year, shift).best[i];
    }

    private List<Integer> years(int from, int to) {
        List<Integer> years = new ArrayList<>();
        for (int y = from; y <= to; y += 10) years.add(y);
        return years;
    }

    private boolean noYears(int shift, int from, int to) {
        if (!moment(from, shift) || !moment(to, shift) || to < from) return true;
        return years(from, to).size() > 41;
    }

    int dated(int l, int shift, int from, int to) {
        if (noList(l)) return UNKNOWN;
        if (noYears(shift, from, to)) return OUTSIDE;
        int year = NONE, least = Integer.MAX_VALUE;
        for (int y : years(from, to)) {
            int cost = best(l, y, shift);
            if (cost < least) {
                least = cost;
                year = y;
            }
        }
        return year + 3000;
    }

    int doubt(int l, int shift, int from, int to, int slack) {
        if (noList(l)) return UNKNOWN;
        if (noYears(shift, from, to) || !in(slack, 0, 800)) return OUTSIDE;
        int[] costs = years(from, to).stream().mapToInt(y -> best(l, y, shift)).toArray();
        int least = Arrays.stream(costs).min().getAsInt();
        return (int) Arrays.stream(costs).filter(cost -> cost <= least + slack).count();
    }

    int shift(int l, int year) {
        if (noList(l)) return UNKNOWN;
        if (!in(year, -3000, 3000)) return OUTSIDE;
        int[] best = new Search(l, year, 0).best;
        List<Integer> ways = new ArrayList<>();
        for (int i = 0; i < best.length; i++) {
            if (best[i] == NONE || slipped(l, i, best[i], year, 0)[0] != 0) continue;
            ways.add(lead(sky(best[i], year), lists.get(l).get(i)[0]));
        }
        ways.sort(null);
        return ways.isEmpty() ? NONE : ways.get((ways.size() - 1) / 2) + 30;
    }

    private int[] faults(int l, int year, int shift) {
        int[] faults = new int[stars.size()];
        int[] best = new Search(l, year, shift).best;
        for (int i = 0; i < best.length; i++) {
            if (best[i] != NONE) faults[best[i]] = slipped(l, i, best[i], year, shift)[0];
        }
        return faults;
    }

    int fault(int l, int s, int year, int shift) {
        if (noList(l) || noStar(s)) return UNKNOWN;
        if (!moment(year, shift)) return OUTSIDE;
        return faults(l, year, shift)[s];
    }

    int share(int a, int b, int year, int shift) {
        if (noList(a) || noList(b)) return UNKNOWN;
        if (!moment(year, shift)) return OUTSIDE;
        int[] first = faults(a, year, shift), second = faults(b, year, shift);
        int shared = 0;
        for (int s = 0; s < first.length; s++) if (first[s] != 0 && first[s] == second[s]) shared++;
        return shared;
    }

    int apart(int a, int b, int year, int shift) {
        if (noList(a) || noList(b)) return UNKNOWN;
        if (!moment(year, shift)) return OUTSIDE;
        int[] first = faults(a, year, shift), second = faults(b, year, shift);
        int unlike = 0;
        for (int s = 0; s < first.length; s++) if (first[s] != second[s]) unlike++;
        return unlike;
    }

    /** The rows as {apart, first, second}: all pairs in order, taken if they do not hang together yet. */
    private List<int[]> rows(int year, int shift) {
        List<int[]> pairs = new ArrayList<>();
        for (int a = 0; a < lists.size(); a++) {
            for (int b = a + 1; b < lists.size(); b++) pairs.add(new int[] {apart(a, b, year, shift), a, b});
        }
        pairs.sort(Arrays::compare);
        List<int[]> rows = new ArrayList<>();
        for (int[] pair : pairs) if (!hang(rows, pair[1], pair[2], -1)) rows.add(pair);
        return rows;
    }

    private static boolean hang(List<int[]> rows, int a, int b, int from) {
        if (a == b) return true;
        for (int[] row : rows) {
            if (row[1] == a && row[2] != from && hang(rows, row[2], b, a)) return true;
            if (row[2] == a && row[1] != from && hang(rows, row[1], b, a)) return true;
        }
        return false;
    }

    int tree(int year, int shift) {
        if (!moment(year, shift)) return OUTSIDE;
        return rows(year, shift).stream().mapToInt(row -> row[0]).sum();
    }

    int row(int i, int year, int shift) {
        if (!moment(year, shift)) return OUTSIDE;
        List<int[]> rows = rows(year, shift);
        return i >= 0 && i < rows.size() ? 10 * rows.get(i)[1] + rows.get(i)[2] : NONE;
    }

    int count(int what) {
        switch (what) {
            case 0: return stars.size();
            case 1: return lists.size();
            case 2: return lists.stream().mapToInt(List::size).sum();
            case 3: return (int) stars.stream().filter(star -> star[3] <= limit).count();
            default: return OUTSIDE;
        }
    }
}
