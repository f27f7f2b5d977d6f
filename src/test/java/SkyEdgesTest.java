/** Promises 1 to 6 at their edges, a test for each sentence that names one. */
public final class SkyEdgesTest {
    private static final int UNKNOWN = Checks.UNKNOWN, OUTSIDE = Checks.OUTSIDE, FULL = Checks.FULL;
    private static final Checks c = new Checks();

    public static void main(String[] args) {
        newHasNoStars();
        newHasNoLists();
        newHasTheFirstLimit();
        newIsApartFromOthers();
        starLong();
        starWide();
        starMotion();
        starLight();
        starFull();
        starOrder();
        starRefusedChangesNothing();
        skyUnknown();
        skyYears();
        skyCutDown();
        skyRoundAhead();
        skyRoundBack();
        skyFarthest();
        skyRefusedChangesNothing();
        aboutUnknown();
        aboutWhat();
        aboutEdges();
        limitNumbers();
        limitItself();
        limitRefusedChangesNothing();
        wayNumbers();
        wayLeastAndGreatest();
        wayRound();
        c.end("SkyEdgesTest", 1, 2, 3, 4, 5, 6);
    }

    private static void newHasNoStars() {
        c.promise(1, "No STARS");
        StarLists x = new StarLists();
        x.list();
        x.line(0, 0, 0);
        c.due("count(0)", x.count(0), 0);
        c.due("count(3)", x.count(3), 0);
        c.due("sky(0, 0)", x.sky(0, 0), UNKNOWN);
        for (int what = 0; what <= 3; what++) c.due("about(0, " + what + ")", x.about(0, what), UNKNOWN);
        c.due("slip(0, 0, 0, 0, 0)", x.slip(0, 0, 0, 0, 0), UNKNOWN);
        c.due("cost(0, 0, 0, 0, 0)", x.cost(0, 0, 0, 0, 0), UNKNOWN);
        c.due("fault(0, 0, 0, 0)", x.fault(0, 0, 0, 0), UNKNOWN);
        c.due("star(7, 7, 7, 6)", x.star(7, 7, 7, 6), 0);
    }

    private static void newHasNoLists() {
        c.promise(1, "no LISTS");
        StarLists x = new StarLists();
        x.star(0, 0, 0, 0);
        c.due("count(1)", x.count(1), 0);
        c.due("count(2)", x.count(2), 0);
        c.due("line(0, 0, 0)", x.line(0, 0, 0), UNKNOWN);
        c.due("written(0, 0, 0)", x.written(0, 0, 0), UNKNOWN);
        c.due("mend(0, 0, 0, 0)", x.mend(0, 0, 0, 0), UNKNOWN);
        c.due("round(0, 2)", x.round(0, 2), UNKNOWN);
        c.due("slip(0, 0, 0, 0, 0)", x.slip(0, 0, 0, 0, 0), UNKNOWN);
        c.due("cost(0, 0, 0, 0, 0)", x.cost(0, 0, 0, 0, 0), UNKNOWN);
        c.due("best(0, 0, 0)", x.best(0, 0, 0), UNKNOWN);
        c.due("matched(0, 0, 0, 0)", x.matched(0, 0, 0, 0), UNKNOWN);
        c.due("dated(0, 0, 0, 0)", x.dated(0, 0, 0, 0), UNKNOWN);
        c.due("doubt(0, 0, 0, 0, 0)", x.doubt(0, 0, 0, 0, 0), UNKNOWN);
        c.due("shift(0, 0)", x.shift(0, 0), UNKNOWN);
        c.due("fault(0, 0, 0, 0)", x.fault(0, 0, 0, 0), UNKNOWN);
        c.due("share(0, 0, 0, 0)", x.share(0, 0, 0, 0), UNKNOWN);
        c.due("apart(0, 0, 0, 0)", x.apart(0, 0, 0, 0), UNKNOWN);
        c.due("tree(0, 0)", x.tree(0, 0), 0);
        c.due("row(0, 0, 0)", x.row(0, 0, 0), Checks.NONE);
        c.due("list()", x.list(), 0);
    }

    private static void newHasTheFirstLimit() {
        c.promise(1, "THE LIMIT is 6 at first");
        c.due("limit(6)", new StarLists().limit(6), 6);
        c.due("limit(0)", new StarLists().limit(0), 6);
    }

    private static void newIsApartFromOthers() {
        c.promise(1, "No STARS, no LISTS, whatever another object holds");
        StarLists x = new StarLists();
        String empty = Checks.stateOf(x);
        x.star(1, 2, 3, 4);
        x.list();
        x.line(0, 5, 6);
        x.limit(2);
        c.unchanged(new StarLists(), empty);
    }

    private static void starLong() {
        c.promise(2, "OUTSIDE: LONG, 0 to 21599");
        c.refused("LONG", 0, 21599, OUTSIDE, n -> new StarLists().star(n, 0, 0, 0));
        c.taken("LONG", 0, 21599, 0, n -> new StarLists().star(n, 0, 0, 0));
    }

    private static void starWide() {
        c.promise(2, "OUTSIDE: WIDE, -5400 to 5400");
        c.refused("WIDE", -5400, 5400, OUTSIDE, n -> new StarLists().star(0, n, 0, 0));
        c.taken("WIDE", -5400, 5400, 0, n -> new StarLists().star(0, n, 0, 0));
    }

    private static void starMotion() {
        c.promise(2, "OUTSIDE: MOTION, -50 to 50");
        c.refused("MOTION", -50, 50, OUTSIDE, n -> new StarLists().star(0, 0, n, 0));
        c.taken("MOTION", -50, 50, 0, n -> new StarLists().star(0, 0, n, 0));
    }

    private static void starLight() {
        c.promise(2, "OUTSIDE: LIGHT, 0 to 6");
        c.refused("LIGHT", 0, 6, OUTSIDE, n -> new StarLists().star(0, 0, 0, n));
        c.taken("LIGHT", 0, 6, 0, n -> new StarLists().star(0, 0, 0, n));
    }

    private static StarLists eightStars() {
        StarLists x = new StarLists();
        for (int i = 0; i < 8; i++) c.due("star " + i, x.star(2000 + i, 100 + i, 10 + i, i % 7), i);
        return x;
    }

    private static void starFull() {
        c.promise(2, "FULL: 8");
        StarLists x = eightStars();
        String full = Checks.stateOf(x);
        c.due("a ninth star", x.star(0, 0, 0, 0), FULL);
        c.due("a ninth star again", x.star(2000, 100, 10, 0), FULL);
        c.due("count(0)", x.count(0), 8);
        c.due("the eighth one's LONG", x.about(7, 0), 2007);
        c.due("the first one's LONG", x.about(0, 0), 2000);
        c.unchanged(x, full);
    }

    private static void starOrder() {
        c.promise(2, "OUTSIDE ahead of FULL");
        StarLists x = eightStars();
        c.due("a ninth star, LONG 21600", x.star(21600, 0, 0, 0), OUTSIDE);
        c.due("a ninth star, WIDE -5401", x.star(0, -5401, 0, 0), OUTSIDE);
        c.due("a ninth star, MOTION 51", x.star(0, 0, 51, 0), OUTSIDE);
        c.due("a ninth star, LIGHT 7", x.star(0, 0, 0, 7), OUTSIDE);
    }

    private static void starRefusedChangesNothing() {
        c.promise(2, "what is refused changes nothing");
        StarLists x = new StarLists();
        x.star(1, 2, 3, 4);
        String before = Checks.stateOf(x);
        c.due("LONG -1", x.star(-1, 0, 0, 0), OUTSIDE);
        c.due("WIDE 5401", x.star(0, 5401, 0, 0), OUTSIDE);
        c.due("MOTION -51", x.star(0, 0, -51, 0), OUTSIDE);
        c.due("LIGHT -1", x.star(0, 0, 0, -1), OUTSIDE);
        c.unchanged(x, before);
        c.due("the next star's number", x.star(0, 0, 0, 0), 1);
    }

    private static StarLists twoStars() {
        StarLists x = new StarLists();
        x.star(1000, 600, 20, 2);
        x.star(2000, -600, -20, 3);
        return x;
    }

    private static void skyUnknown() {
        c.promise(3, "UNKNOWN");
        StarLists x = twoStars();
        c.refused("STAR", 0, 1, UNKNOWN, n -> x.sky(n, 0));
        c.due("UNKNOWN ahead of OUTSIDE", x.sky(2, 3001), UNKNOWN);
        c.due("UNKNOWN ahead of OUTSIDE", x.sky(-1, -3001), UNKNOWN);
        c.due("the last STAR", x.sky(1, 0), 2000);
    }

    private static void skyYears() {
        c.promise(3, "OUTSIDE: year, -3000 to 3000");
        StarLists x = twoStars();
        c.refused("year", -3000, 3000, OUTSIDE, n -> x.sky(0, n));
        c.due("year 3000", x.sky(0, 3000), 1000 + 2500 + 600);
        c.due("year -3000", x.sky(1, -3000), 2000 - 2500 + 600);
    }

    private static int skyOf(int long0, int motion, int year) {
        StarLists x = new StarLists();
        x.star(long0, 0, motion, 0);
        return x.sky(0, year);
    }

    private static void skyCutDown() {
        c.promise(3, "each of both cut down, to the lesser whole number");
        c.due("LONG 100, year -1", skyOf(100, 0, -1), 99);
        c.due("LONG 100, year -5", skyOf(100, 0, -5), 95);
        c.due("LONG 100, year -6", skyOf(100, 0, -6), 95);
        c.due("LONG 100, year -7", skyOf(100, 0, -7), 94);
        c.due("LONG 100, year 1", skyOf(100, 0, 1), 100);
        c.due("LONG 100, year 6", skyOf(100, 0, 6), 105);
        c.due("LONG 100, MOTION 1, year -1", skyOf(100, 1, -1), 98);
        c.due("LONG 100, MOTION -1, year 1", skyOf(100, -1, 1), 99);
        c.due("LONG 100, MOTION -1, year 100", skyOf(100, -1, 100), 100 + 83 - 1);
        c.due("LONG 100, MOTION -1, year 102", skyOf(100, -1, 102), 100 + 85 - 2);
        c.due("LONG 100, MOTION 1, year 99", skyOf(100, 1, 99), 100 + 82);
        c.due("LONG 100, MOTION -50, year -1", skyOf(100, -50, -1), 99);
        // cut down together they would be 101 and 100
        c.due("LONG 100, MOTION 50, year 1", skyOf(100, 50, 1), 100);
        c.due("LONG 100, MOTION -50, year 1", skyOf(100, -50, 1), 99);
    }

    private static void skyRoundAhead() {
        c.promise(3, "round 21600, ahead");
        c.due("LONG 21595, year 5", skyOf(21595, 0, 5), 21599);
        c.due("LONG 21595, year 6", skyOf(21595, 0, 6), 0);
        c.due("LONG 21595, year 8", skyOf(21595, 0, 8), 1);
        c.due("LONG 21599, MOTION 50, year 2", skyOf(21599, 50, 2), 1);
    }

    private static void skyRoundBack() {
        c.promise(3, "round 21600, back");
        c.due("LONG 5, year -6", skyOf(5, 0, -6), 0);
        c.due("LONG 5, year -7", skyOf(5, 0, -7), 21599);
        c.due("LONG 0, year -1", skyOf(0, 0, -1), 21599);
        c.due("LONG 0, MOTION -50, year 1", skyOf(0, -50, 1), 21599);
    }

    private static void skyFarthest() {
        c.promise(3, "LONG of a STAR in a YEAR, the farthest");
        c.due("ahead", skyOf(21599, 50, 3000), 21599 + 2500 + 1500 - 21600);
        c.due("back", skyOf(0, 50, -3000), 21600 - 2500 - 1500);
        c.due("ahead, against MOTION", skyOf(0, -50, 3000), 2500 - 1500);
        c.due("back, against MOTION", skyOf(0, -50, -3000), 21600 - 2500 + 1500);
    }

    private static void skyRefusedChangesNothing() {
        c.promise(3, "what is refused changes nothing, nor what is asked");
        StarLists x = twoStars();
        String before = Checks.stateOf(x);
        x.sky(0, 3001);
        x.sky(2, 0);
        x.sky(1, 3000);
        c.unchanged(x, before);
    }

    private static void aboutUnknown() {
        c.promise(4, "UNKNOWN");
        StarLists x = twoStars();
        for (int what = 0; what <= 3; what++) {
            int asked = what;
            c.refused("STAR", 0, 1, UNKNOWN, n -> x.about(n, asked));
        }
        c.due("UNKNOWN ahead of OUTSIDE", x.about(2, 4), UNKNOWN);
        c.due("UNKNOWN ahead of OUTSIDE", x.about(-1, -1), UNKNOWN);
    }

    private static void aboutWhat() {
        c.promise(4, "OUTSIDE: what, 0 to 3");
        StarLists x = twoStars();
        String before = Checks.stateOf(x);
        c.refused("what", 0, 3, OUTSIDE, n -> x.about(1, n));
        c.due("what 0", x.about(1, 0), 2000);
        c.due("what 3", x.about(1, 3), 4800);
        c.unchanged(x, before);
    }

    private static void aboutEdges() {
        c.promise(4, "LONG, MOTION, LIGHT, WIDE and 5400 more, at their least and greatest");
        StarLists x = new StarLists();
        x.star(0, -5400, -50, 0);
        x.star(21599, 5400, 50, 6);
        int[][] due = {{0, -50, 0, 0}, {21599, 50, 6, 10800}};
        for (int star = 0; star < 2; star++) {
            for (int what = 0; what <= 3; what++) {
                c.due("about(" + star + ", " + what + ")", x.about(star, what), due[star][what]);
            }
        }
    }

    private static void limitNumbers() {
        c.promise(5, "OUTSIDE: 0 to 6");
        c.refused("limit", 0, 6, OUTSIDE, n -> new StarLists().limit(n));
        c.taken("limit", 0, 6, 6, n -> new StarLists().limit(n));
    }

    private static void limitItself() {
        c.promise(5, "STARS that are fainter count for nothing; those as faint as THE LIMIT count");
        StarLists x = new StarLists();
        for (int light = 0; light <= 6; light++) x.star(0, 0, 0, light);
        for (int n = 0; n <= 6; n++) {
            x.limit(n);
            c.due("count(3), limit " + n, x.count(3), n + 1);
        }
    }

    private static void limitRefusedChangesNothing() {
        c.promise(5, "what is refused changes nothing; else what it was");
        StarLists x = new StarLists();
        x.star(0, 0, 0, 4);
        c.due("limit(4)", x.limit(4), 6);
        c.due("limit(7)", x.limit(7), OUTSIDE);
        c.due("limit(-1)", x.limit(-1), OUTSIDE);
        c.due("count(3)", x.count(3), 1);
        c.due("limit(0)", x.limit(0), 4);
        c.due("limit(6)", x.limit(6), 0);
        c.due("limit(6) once more", x.limit(6), 6);
    }

    private static void wayNumbers() {
        c.promise(6, "OUTSIDE: a LONG, 0 to 21599 each");
        StarLists x = new StarLists();
        c.refused("from", 0, 21599, OUTSIDE, n -> x.way(n, 0));
        c.refused("to", 0, 21599, OUTSIDE, n -> x.way(0, n));
        c.refused("both", 0, 21599, OUTSIDE, n -> x.way(n, n));
        c.taken("both", 0, 21599, 10800, n -> x.way(n, n));
    }

    private static void wayLeastAndGreatest() {
        c.promise(6, "from -10800 to 10799");
        StarLists x = new StarLists();
        c.due("way(0, 10799)", x.way(0, 10799), 21599);
        c.due("way(0, 10800)", x.way(0, 10800), 0);
        c.due("way(0, 10801)", x.way(0, 10801), 1);
        c.due("way(10799, 0)", x.way(10799, 0), 1);
        c.due("way(10800, 0)", x.way(10800, 0), 0);
        c.due("way(10801, 0)", x.way(10801, 0), 21599);
        c.due("way(21599, 10798)", x.way(21599, 10798), 21599);
        c.due("way(21599, 10799)", x.way(21599, 10799), 0);
    }

    private static void wayRound() {
        c.promise(6, "round 21600");
        StarLists x = new StarLists();
        c.due("way(21599, 0)", x.way(21599, 0), 10801);
        c.due("way(0, 21599)", x.way(0, 21599), 10799);
        c.due("way(21000, 600)", x.way(21000, 600), 12000);
        c.due("way(600, 21000)", x.way(600, 21000), 9600);
    }
}
