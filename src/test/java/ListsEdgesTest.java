/** Promises 7 to 11 and 24 at their edges, a test for each sentence that names one. */
public final class ListsEdgesTest {
    private static final int UNKNOWN = Checks.UNKNOWN, OUTSIDE = Checks.OUTSIDE, FULL = Checks.FULL;
    private static final Checks c = new Checks();

    public static void main(String[] args) {
        listWithoutLines();
        listFull();
        lineUnknown();
        lineLong();
        lineWide();
        lineFull();
        lineOrder();
        lineRefusedChangesNothing();
        writtenUnknownList();
        writtenUnknownLine();
        writtenWhat();
        writtenEdges();
        mendUnknownList();
        mendUnknownLine();
        mendOutside();
        mendInAFullList();
        mendRefusedChangesNothing();
        roundUnknown();
        roundParts();
        roundOfNoLines();
        roundOfEightLines();
        roundOfNought();
        countWhat();
        countOfNothing();
        countWhenFull();
        countAtTheLimit();
        c.end("ListsEdgesTest", 7, 8, 9, 10, 11, 24);
    }

    /** List 0 with lines at 100 and 200, list 1 with one at 300, list 2 without. */
    private static StarLists threeLists() {
        StarLists x = new StarLists();
        for (int i = 0; i < 3; i++) x.list();
        x.line(0, 100, 1);
        x.line(0, 200, 2);
        x.line(1, 300, 3);
        return x;
    }

    /** A list before it, one after it, and eight lines in it. */
    private static StarLists eightLines() {
        StarLists x = new StarLists();
        for (int i = 0; i < 3; i++) x.list();
        x.line(0, 50, 5);
        x.line(2, 60, 6);
        for (int i = 0; i < 8; i++) c.due("line " + i, x.line(1, 1000 + i, 10 * i), i);
        return x;
    }

    private static void listWithoutLines() {
        c.promise(7, "A LIST without LINES");
        StarLists x = new StarLists();
        c.due("list()", x.list(), 0);
        c.due("count(2)", x.count(2), 0);
        c.due("written(0, 0, 0)", x.written(0, 0, 0), UNKNOWN);
        c.due("mend(0, 0, 0, 0)", x.mend(0, 0, 0, 0), UNKNOWN);
        c.due("round(0, 2)", x.round(0, 2), 0);
        c.due("best(0, 0, 0)", x.best(0, 0, 0), 0);
        c.due("matched(0, 0, 0, 0)", x.matched(0, 0, 0, 0), UNKNOWN);
        c.due("shift(0, 0)", x.shift(0, 0), Checks.NONE);
        x.line(0, 0, 0);
        c.due("list() behind one that has a line", x.list(), 1);
        c.due("written(1, 0, 0)", x.written(1, 0, 0), UNKNOWN);
        c.due("round(1, 2)", x.round(1, 2), 0);
    }

    private static void listFull() {
        c.promise(7, "FULL: 6");
        StarLists x = new StarLists();
        for (int i = 0; i < 6; i++) c.due("list " + i, x.list(), i);
        x.line(5, 7, 8);
        String full = Checks.stateOf(x);
        c.due("a seventh list", x.list(), FULL);
        c.due("a seventh list again", x.list(), FULL);
        c.due("count(1)", x.count(1), 6);
        c.due("a line in the seventh", x.line(6, 0, 0), UNKNOWN);
        c.due("the sixth one's line", x.written(5, 0, 0), 7);
        c.unchanged(x, full);
    }

    private static void lineUnknown() {
        c.promise(8, "UNKNOWN");
        StarLists x = threeLists();
        String before = Checks.stateOf(x);
        c.refused("LIST", 0, 2, UNKNOWN, n -> x.line(n, 0, 0));
        c.unchanged(x, before);
        c.due("the last LIST", x.line(2, 0, 0), 0);
    }

    private static int lineOfNew(int long0, int wide) {
        StarLists x = new StarLists();
        x.list();
        return x.line(0, long0, wide);
    }

    private static void lineLong() {
        c.promise(8, "OUTSIDE: LONG, as of a STAR");
        c.refused("LONG", 0, 21599, OUTSIDE, n -> lineOfNew(n, 0));
        c.taken("LONG", 0, 21599, 0, n -> lineOfNew(n, 0));
    }

    private static void lineWide() {
        c.promise(8, "OUTSIDE: WIDE, as of a STAR");
        c.refused("WIDE", -5400, 5400, OUTSIDE, n -> lineOfNew(0, n));
        c.taken("WIDE", -5400, 5400, 0, n -> lineOfNew(0, n));
    }

    private static void lineFull() {
        c.promise(8, "FULL: 8");
        StarLists x = eightLines();
        String full = Checks.stateOf(x);
        c.due("a ninth line", x.line(1, 0, 0), FULL);
        c.due("a ninth line again", x.line(1, 1000, 0), FULL);
        c.due("count(2)", x.count(2), 10);
        c.unchanged(x, full);
        c.due("the list ahead has room", x.line(0, 51, 0), 1);
        c.due("the list behind has room", x.line(2, 61, 0), 1);
        c.due("the eighth line is as it was", x.written(1, 7, 0), 1007);
        c.due("the first line is as it was", x.written(1, 0, 0), 1000);
        for (int i = 2; i < 8; i++) {
            x.line(0, 50 + i, 0);
            x.line(2, 60 + i, 0);
        }
        c.due("a ninth line ahead", x.line(0, 0, 0), FULL);
        c.due("a ninth line behind", x.line(2, 0, 0), FULL);
    }

    private static void lineOrder() {
        c.promise(8, "UNKNOWN ahead of OUTSIDE ahead of FULL");
        StarLists x = eightLines();
        c.due("LIST 3, LONG 21600", x.line(3, 21600, 0), UNKNOWN);
        c.due("LIST -1, WIDE 5401", x.line(-1, 0, 5401), UNKNOWN);
        c.due("a ninth line, LONG 21600", x.line(1, 21600, 0), OUTSIDE);
        c.due("a ninth line, WIDE -5401", x.line(1, 0, -5401), OUTSIDE);
    }

    private static void lineRefusedChangesNothing() {
        c.promise(8, "what is refused changes nothing");
        StarLists x = threeLists();
        String before = Checks.stateOf(x);
        c.due("LONG -1", x.line(0, -1, 0), OUTSIDE);
        c.due("WIDE 5401", x.line(0, 0, 5401), OUTSIDE);
        c.due("LIST 3", x.line(3, 0, 0), UNKNOWN);
        c.unchanged(x, before);
        c.due("the next line's number", x.line(0, 0, 0), 2);
    }

    private static void writtenUnknownList() {
        c.promise(9, "UNKNOWN: there is no such LIST");
        StarLists x = threeLists();
        c.refused("LIST", 0, 2, UNKNOWN, n -> x.written(n, 0, 0));
        c.due("UNKNOWN ahead of OUTSIDE", x.written(3, 0, 2), UNKNOWN);
    }

    private static void writtenUnknownLine() {
        c.promise(9, "UNKNOWN: there is no such LINE");
        StarLists x = threeLists();
        c.refused("LINE", 0, 1, UNKNOWN, n -> x.written(0, n, 0));
        c.refused("LINE", 0, 0, UNKNOWN, n -> x.written(1, n, 1));
        c.due("the first LINE of a LIST without", x.written(2, 0, 0), UNKNOWN);
        c.due("UNKNOWN ahead of OUTSIDE", x.written(0, 2, 2), UNKNOWN);
        StarLists y = eightLines();
        c.refused("LINE of eight", 0, 7, UNKNOWN, n -> y.written(1, n, 0));
        c.due("the last LINE of eight", y.written(1, 7, 0), 1007);
    }

    private static void writtenWhat() {
        c.promise(9, "OUTSIDE: what, 0 to 1");
        StarLists x = threeLists();
        String before = Checks.stateOf(x);
        c.refused("what", 0, 1, OUTSIDE, n -> x.written(0, 1, n));
        c.due("what 0", x.written(0, 1, 0), 200);
        c.due("what 1", x.written(0, 1, 1), 5402);
        c.unchanged(x, before);
    }

    private static void writtenEdges() {
        c.promise(9, "LONG, WIDE and 5400 more, at their least and greatest");
        StarLists x = new StarLists();
        x.list();
        x.line(0, 0, -5400);
        x.line(0, 21599, 5400);
        c.due("the least LONG", x.written(0, 0, 0), 0);
        c.due("the least WIDE", x.written(0, 0, 1), 0);
        c.due("the greatest LONG", x.written(0, 1, 0), 21599);
        c.due("the greatest WIDE", x.written(0, 1, 1), 10800);
    }

    private static void mendUnknownList() {
        c.promise(10, "UNKNOWN: there is no such LIST");
        StarLists x = threeLists();
        String before = Checks.stateOf(x);
        c.refused("LIST", 0, 2, UNKNOWN, n -> x.mend(n, 0, 0, 0));
        c.due("UNKNOWN ahead of OUTSIDE", x.mend(3, 0, -1, 0), UNKNOWN);
        c.unchanged(x, before);
    }

    private static void mendUnknownLine() {
        c.promise(10, "UNKNOWN: there is no such LINE");
        StarLists x = threeLists();
        String before = Checks.stateOf(x);
        c.refused("LINE", 0, 1, UNKNOWN, n -> x.mend(0, n, 0, 0));
        c.due("the first LINE of a LIST without", x.mend(2, 0, 0, 0), UNKNOWN);
        c.due("UNKNOWN ahead of OUTSIDE", x.mend(0, 2, 0, 5401), UNKNOWN);
        c.unchanged(x, before);
    }

    private static int mendNew(int long0, int wide) {
        StarLists x = new StarLists();
        x.list();
        x.line(0, 77, 0);
        return x.mend(0, 0, long0, wide);
    }

    private static void mendOutside() {
        c.promise(10, "OUTSIDE: LONG, WIDE");
        c.refused("LONG", 0, 21599, OUTSIDE, n -> mendNew(n, 0));
        c.taken("LONG", 0, 21599, 77, n -> mendNew(n, 0));
        c.refused("WIDE", -5400, 5400, OUTSIDE, n -> mendNew(0, n));
        c.taken("WIDE", -5400, 5400, 77, n -> mendNew(0, n));
    }

    private static void mendInAFullList() {
        c.promise(10, "A LINE is written anew, in a full LIST too: LONG as it was");
        StarLists x = eightLines();
        c.due("the eighth", x.mend(1, 7, 0, -5400), 1007);
        c.due("the eighth once more", x.mend(1, 7, 21599, 5400), 0);
        c.due("the eighth a third time", x.mend(1, 7, 3, 4), 21599);
        c.due("its LONG", x.written(1, 7, 0), 3);
        c.due("its WIDE", x.written(1, 7, 1), 5404);
        c.due("the first", x.mend(1, 0, 9, 9), 1000);
        c.due("the seventh is as it was", x.written(1, 6, 0), 1006);
        c.due("the LIST ahead is as it was", x.written(0, 0, 0), 50);
        c.due("the LIST behind is as it was", x.written(2, 0, 0), 60);
        c.due("no LINE more", x.count(2), 10);
    }

    private static void mendRefusedChangesNothing() {
        c.promise(10, "what is refused changes nothing");
        StarLists x = threeLists();
        String before = Checks.stateOf(x);
        c.due("LONG 21600", x.mend(0, 1, 21600, 9), OUTSIDE);
        c.due("WIDE 5401", x.mend(0, 1, 9, 5401), OUTSIDE);
        c.due("WIDE -5401", x.mend(0, 1, 9, -5401), OUTSIDE);
        c.unchanged(x, before);
    }

    private static void roundUnknown() {
        c.promise(11, "UNKNOWN");
        StarLists x = threeLists();
        c.refused("LIST", 0, 2, UNKNOWN, n -> x.round(n, 2));
        c.due("UNKNOWN ahead of OUTSIDE", x.round(3, 1), UNKNOWN);
        c.due("UNKNOWN ahead of OUTSIDE", x.round(-1, 1801), UNKNOWN);
    }

    private static void roundParts() {
        c.promise(11, "OUTSIDE: so many times, 2 to 1800");
        StarLists x = threeLists();
        String before = Checks.stateOf(x);
        c.refused("part", 2, 1800, OUTSIDE, n -> x.round(0, n));
        c.due("part 0", x.round(0, 0), OUTSIDE);
        c.due("part -2", x.round(0, -2), OUTSIDE);
        c.due("part 0 of a LIST without LINES", x.round(2, 0), OUTSIDE);
        c.due("part 2", x.round(0, 2), 2);
        c.due("part 1800", x.round(0, 1800), 0);
        c.unchanged(x, before);
        x.mend(0, 0, 21600 - 1800, 0);
        x.mend(0, 1, 1799, 0);
        c.due("part 1800 of 19800", x.round(0, 1800), 1);
        c.due("part 1799", x.round(0, 1799), 1);
        c.due("part 2 of 19800", x.round(0, 2), 1);
    }

    private static void roundOfNoLines() {
        c.promise(11, "in how many LINES: of none");
        c.due("part 2", threeLists().round(2, 2), 0);
        c.due("part 1800", threeLists().round(2, 1800), 0);
    }

    private static void roundOfEightLines() {
        c.promise(11, "in how many LINES: of eight");
        StarLists x = eightLines();
        c.due("the even ones", x.round(1, 2), 4);
        for (int i = 0; i < 8; i++) x.mend(1, i, 300 * i, 0);
        c.due("all", x.round(1, 300), 8);
        c.due("every other", x.round(1, 600), 4);
        c.due("the LIST ahead", x.round(0, 300), 0);
        c.due("the LIST behind", x.round(2, 300), 0);
    }

    private static void roundOfNought() {
        c.promise(11, "LONG is so many times a whole number: 0 is");
        StarLists x = new StarLists();
        x.list();
        x.line(0, 0, 1);
        c.due("part 2", x.round(0, 2), 1);
        c.due("part 7", x.round(0, 7), 1);
        c.due("part 1800", x.round(0, 1800), 1);
    }

    private static void countWhat() {
        c.promise(24, "OUTSIDE: what, 0 to 3");
        StarLists x = threeLists();
        String before = Checks.stateOf(x);
        c.refused("what", 0, 3, OUTSIDE, n -> x.count(n));
        c.unchanged(x, before);
    }

    private static void countOfNothing() {
        c.promise(24, "0 STARS, 1 LISTS, 2 all LINES, 3 STARS that are not fainter: none");
        StarLists x = new StarLists();
        for (int what = 0; what <= 3; what++) c.due("count(" + what + ")", x.count(what), 0);
        x.list();
        c.due("LINES of a LIST without", x.count(2), 0);
    }

    private static void countWhenFull() {
        c.promise(24, "0 STARS, 1 LISTS, 2 all LINES, 3 STARS that are not fainter: as many as may be");
        StarLists x = new StarLists();
        for (int i = 0; i < 9; i++) x.star(i, i, i, 0);
        for (int i = 0; i < 7; i++) x.list();
        for (int i = 0; i < 7 * 9; i++) x.line(i / 9, i, i);
        x.limit(0);
        c.due("count(0)", x.count(0), 8);
        c.due("count(1)", x.count(1), 6);
        c.due("count(2)", x.count(2), 48);
        c.due("count(3)", x.count(3), 8);
    }

    private static void countAtTheLimit() {
        c.promise(24, "3 STARS that are not fainter than THE LIMIT");
        StarLists x = new StarLists();
        x.star(0, 0, 0, 3);
        x.star(0, 0, 0, 4);
        x.limit(4);
        c.due("as faint", x.count(3), 2);
        x.limit(3);
        c.due("one fainter", x.count(3), 1);
        x.limit(2);
        c.due("both fainter", x.count(3), 0);
        c.due("all STARS", x.count(0), 2);
    }
}
