/** Promises 7 to 11 and 24 with ordinary inputs: list, line, written, mend, round, count. */
public final class ListsTest {
    private static final Checks c = new Checks();

    public static void main(String[] args) {
        list();
        line();
        written();
        mend();
        round();
        count();
        c.end("ListsTest");
    }

    private static void list() {
        StarLists x = new StarLists();
        for (int i = 0; i < 6; i++) c.due("list " + i, x.list(), i);
        c.due("a seventh list", x.list(), Checks.FULL);
        c.due("count(1)", x.count(1), 6);
        c.due("lists begin without lines", x.count(2), 0);
        c.due("written(5, 0, 0)", x.written(5, 0, 0), Checks.UNKNOWN);
        c.due("best(5, 0, 0)", x.best(5, 0, 0), 0);
    }

    private static void line() {
        StarLists x = new StarLists();
        x.list();
        x.list();
        c.due("line(1, 0, -5400)", x.line(1, 0, -5400), 0);
        c.due("line(1, 21599, 5400)", x.line(1, 21599, 5400), 1);
        c.due("each list counts its own", x.line(0, 9, 9), 0);
        for (int i = 2; i < 8; i++) c.due("line " + i, x.line(1, 100 + i, i), i);
        c.due("a ninth line", x.line(1, 0, 0), Checks.FULL);
        c.due("the other has room", x.line(0, 10, 10), 1);
        c.due("count(2)", x.count(2), 10);
        c.due("the eighth is held", x.written(1, 7, 0), 107);
        c.due("the other's first is as it was", x.written(0, 0, 0), 9);
    }

    private static void written() {
        StarLists x = new StarLists();
        x.list();
        x.list();
        x.line(0, 1520, 310);
        x.line(0, 15, -5400);
        x.line(1, 21599, 5400);
        c.due("written(0, 0, 0)", x.written(0, 0, 0), 1520);
        c.due("written(0, 0, 1)", x.written(0, 0, 1), 5710);
        c.due("written(0, 1, 0)", x.written(0, 1, 0), 15);
        c.due("written(0, 1, 1)", x.written(0, 1, 1), 0);
        c.due("written(1, 0, 0)", x.written(1, 0, 0), 21599);
        c.due("written(1, 0, 1)", x.written(1, 0, 1), 10800);
        c.due("a line of the other list alone", x.written(1, 1, 0), Checks.UNKNOWN);
    }

    private static void mend() {
        StarLists x = new StarLists();
        x.list();
        x.line(0, 100, 1);
        x.line(0, 200, 2);
        c.due("mend(0, 1, 21599, -5400)", x.mend(0, 1, 21599, -5400), 200);
        c.due("its long is new", x.written(0, 1, 0), 21599);
        c.due("its wide is new", x.written(0, 1, 1), 0);
        c.due("the other is as it was", x.written(0, 0, 0), 100);
        c.due("mend(0, 1, 0, 5400)", x.mend(0, 1, 0, 5400), 21599);
        c.due("its long is new once more", x.written(0, 1, 0), 0);
        c.due("its wide is new once more", x.written(0, 1, 1), 10800);
        c.due("no line came", x.count(2), 2);
    }

    private static void round() {
        StarLists x = new StarLists();
        x.list();
        x.list();
        c.due("round of no lines", x.round(0, 2), 0);
        for (int at : new int[] {0, 15, 600, 1800, 3601, 21598}) x.line(0, at, 0);
        c.due("round(0, 2)", x.round(0, 2), 4);
        c.due("round(0, 5)", x.round(0, 5), 4);
        c.due("round(0, 600)", x.round(0, 600), 3);
        c.due("round(0, 1800)", x.round(0, 1800), 2);
        c.due("round(0, 13)", x.round(0, 13), 2);
        c.due("the other list", x.round(1, 2), 0);
    }

    private static void count() {
        StarLists x = new StarLists();
        for (int light = 0; light <= 6; light++) x.star(0, 0, 0, light);
        x.list();
        x.list();
        x.line(0, 0, 0);
        x.line(1, 0, 0);
        x.line(1, 0, 0);
        c.due("count(0)", x.count(0), 7);
        c.due("count(1)", x.count(1), 2);
        c.due("count(2)", x.count(2), 3);
        c.due("count(3) at first", x.count(3), 7);
        x.limit(5);
        c.due("count(3), limit 5", x.count(3), 6);
        x.limit(0);
        c.due("count(3), limit 0", x.count(3), 1);
        c.due("count(0) does not look at the limit", x.count(0), 7);
    }
}
