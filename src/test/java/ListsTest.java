/** Promises 7 to 11 and 24: list, line, written, mend, round, count. */
public final class ListsTest {
    private static final int MIN = Integer.MIN_VALUE, MAX = Integer.MAX_VALUE;
    private static final Checks c = new Checks();

    public static void main(String[] args) {
        list();
        line();
        lineRefusals();
        written();
        mend();
        round();
        count();
        c.end("ListsTest");
    }

    private static void list() {
        StarLists x = new StarLists();
        for (int i = 0; i < 6; i++) c.due("list " + i, x.list(), i);
        c.due("a seventh list", x.list(), Checks.FULL);
        c.due("count(1)", x.count(1), 6);
        c.due("lists begin without lines", x.count(2), 0);
        c.due("written(5, 0, 0)", x.written(5, 0, 0), Checks.UNKNOWN);
        c.due("best(5, 0, 0)", x.best(5, 0, 0), 0);
    }

    private static void line() {
        StarLists x = new StarLists();
        x.list();
        x.list();
        c.due("line(1, 0, -5400)", x.line(1, 0, -5400), 0);
        c.due("line(1, 21599, 5400)", x.line(1, 21599, 5400), 1);
        c.due("each list counts its own", x.line(0, 9, 9), 0);
        for (int i = 2; i < 8; i++) c.due("line " + i, x.line(1, 100 + i, i), i);
        c.due("a ninth line", x.line(1, 0, 0), Checks.FULL);
        c.due("OUTSIDE ahead of FULL", x.line(1, 21600, 0), Checks.OUTSIDE);
        c.due("the other has room", x.line(0, 10, 10), 1);
        c.due("count(2)", x.count(2), 10);
        c.due("the eighth is held", x.written(1, 7, 0), 107);
        c.due("the other's first is as it was", x.written(0, 0, 0), 9);
    }

    private static void lineRefusals() {
        StarLists x = new StarLists();
        x.list();
        for (int n : new int[] {-1, 1, MIN, MAX}) c.due("line of list " + n, x.line(n, 0, 0), Checks.UNKNOWN);
        for (int n : new int[] {-1, 21600, MIN, MAX}) c.due("line at " + n, x.line(0, n, 0), Checks.OUTSIDE);
        for (int n : new int[] {-5401, 5401, MIN, MAX}) c.due("line wide " + n, x.line(0, 0, n), Checks.OUTSIDE);
        c.due("UNKNOWN ahead of OUTSIDE", x.line(1, -1, 0), Checks.UNKNOWN);
        c.due("nothing was added", x.count(2), 0);
    }

    private static void written() {
        StarLists x = new StarLists();
        x.list();
        x.list();
        x.line(0, 1520, 310);
        x.line(0, 15, -5400);
        x.line(1, 21599, 5400);
        c.due("written(0, 0, 0)", x.written(0, 0, 0), 1520);
        c.due("written(0, 0, 1)", x.written(0, 0, 1), 5710);
        c.due("written(0, 1, 0)", x.written(0, 1, 0), 15);
        c.due("written(0, 1, 1)", x.written(0, 1, 1), 0);
        c.due("written(1, 0, 0)", x.written(1, 0, 0), 21599);
        c.due("written(1, 0, 1)", x.written(1, 0, 1), 10800);
        for (int n : new int[] {-1, 2, MIN, MAX}) {
            c.due("written of list " + n, x.written(n, 0, 0), Checks.UNKNOWN);
            c.due("written of line " + n, x.written(0, n, 0), Checks.UNKNOWN);
            c.due("written what " + n, x.written(0, 0, n), Checks.OUTSIDE);
        }
        c.due("a line of the other list alone", x.written(1, 1, 0), Checks.UNKNOWN);
        c.due("UNKNOWN ahead of OUTSIDE", x.written(0, 2, 2), Checks.UNKNOWN);
    }

    private static void mend() {
        StarLists x = new StarLists();
        x.list();
        x.line(0, 100, 1);
        x.line(0, 200, 2);
        c.due("mend(0, 1, 21599, -5400)", x.mend(0, 1, 21599, -5400), 200);
        c.due("its long is new", x.written(0, 1, 0), 21599);
        c.due("its wide is new", x.written(0, 1, 1), 0);
        c.due("the other is as it was", x.written(0, 0, 0), 100);
        c.due("mend(0, 1, 0, 5400)", x.mend(0, 1, 0, 5400), 21599);
        for (int n : new int[] {-1, 2, MIN, MAX}) {
            c.due("mend of list " + n, x.mend(n, 0, 0, 0), Checks.UNKNOWN);
            c.due("mend of line " + n, x.mend(0, n, 0, 0), Checks.UNKNOWN);
        }
        for (int n : new int[] {-1, 21600, MIN, MAX}) c.due("mend to " + n, x.mend(0, 1, n, 0), Checks.OUTSIDE);
        for (int n : new int[] {-5401, 5401, MIN, MAX}) c.due("mend wide " + n, x.mend(0, 1, 0, n), Checks.OUTSIDE);
        c.due("UNKNOWN ahead of OUTSIDE", x.mend(0, 2, -1, 0), Checks.UNKNOWN);
        c.due("what was refused changed no long", x.written(0, 1, 0), 0);
        c.due("what was refused changed no wide", x.written(0, 1, 1), 10800);
        c.due("no line came", x.count(2), 2);
    }

    private static void round() {
        StarLists x = new StarLists();
        x.list();
        x.list();
        c.due("round of no lines", x.round(0, 2), 0);
        for (int at : new int[] {0, 15, 600, 1800, 3601, 21598}) x.line(0, at, 0);
        c.due("round(0, 2)", x.round(0, 2), 4);
        c.due("round(0, 5)", x.round(0, 5), 4);
        c.due("round(0, 600)", x.round(0, 600), 3);
        c.due("round(0, 1800)", x.round(0, 1800), 2);
        c.due("round(0, 13)", x.round(0, 13), 2);
        c.due("the other list", x.round(1, 2), 0);
        for (int n : new int[] {1, 1801, 0, -2, MIN, MAX}) c.due("round by " + n, x.round(0, n), Checks.OUTSIDE);
        for (int n : new int[] {-1, 2, MIN, MAX}) c.due("round of list " + n, x.round(n, 2), Checks.UNKNOWN);
        c.due("UNKNOWN ahead of OUTSIDE", x.round(2, 1), Checks.UNKNOWN);
    }

    private static void count() {
        StarLists x = new StarLists();
        for (int light = 0; light <= 6; light++) x.star(0, 0, 0, light);
        x.list();
        x.list();
        x.line(0, 0, 0);
        x.line(1, 0, 0);
        x.line(1, 0, 0);
        c.due("count(0)", x.count(0), 7);
        c.due("count(1)", x.count(1), 2);
        c.due("count(2)", x.count(2), 3);
        c.due("count(3) at first", x.count(3), 7);
        x.limit(5);
        c.due("count(3), limit 5", x.count(3), 6);
        x.limit(0);
        c.due("count(3), limit 0", x.count(3), 1);
        c.due("count(0) does not look at the limit", x.count(0), 7);
        for (int n : new int[] {-1, 4, MIN, MAX}) c.due("count(" + n + ")", x.count(n), Checks.OUTSIDE);
    }
}
