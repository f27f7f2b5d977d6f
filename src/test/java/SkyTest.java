/** Promises 2 to 6 with ordinary inputs: star, sky, about, limit, way. */
public final class SkyTest {
    private static final Checks c = new Checks();

    public static void main(String[] args) {
        star();
        sky();
        about();
        limit();
        way();
        c.end("SkyTest");
    }

    private static void star() {
        StarLists x = new StarLists();
        c.due("star(0, -5400, -50, 0)", x.star(0, -5400, -50, 0), 0);
        c.due("star(21599, 5400, 50, 6)", x.star(21599, 5400, 50, 6), 1);
        for (int i = 2; i < 8; i++) c.due("star " + i, x.star(i, i, i, 1), i);
        c.due("a ninth star", x.star(0, 0, 0, 0), Checks.FULL);
        c.due("count(0) when full", x.count(0), 8);
        c.due("the eighth is held", x.about(7, 0), 7);
    }

    private static void sky() {
        StarLists x = new StarLists();
        x.star(1000, 600, 20, 2);
        x.star(0, 0, 50, 0);
        x.star(21599, 0, -50, 0);
        c.due("sky(0, 0)", x.sky(0, 0), 1000);
        c.due("sky(0, 60)", x.sky(0, 60), 1000 + 50 + 12);
        c.due("sky(0, 7)", x.sky(0, 7), 1000 + 5 + 1);
        c.due("sky(0, -7)", x.sky(0, -7), 1000 - 6 - 2);
        c.due("each cut on its own: sky(1, 1)", x.sky(1, 1), 0);
        c.due("each cut down: sky(1, -1)", x.sky(1, -1), 21598);
        c.due("sky(1, 5)", x.sky(1, 5), 4 + 2);
        c.due("sky(2, 1)", x.sky(2, 1), 21598);
        c.due("round: sky(2, 12)", x.sky(2, 12), 21599 + 10 - 6 - 21600);
    }

    private static void about() {
        StarLists x = new StarLists();
        x.star(1000, 600, -20, 2);
        x.star(7, -5400, 50, 6);
        c.due("about(0, 0)", x.about(0, 0), 1000);
        c.due("about(0, 1)", x.about(0, 1), -20);
        c.due("about(0, 2)", x.about(0, 2), 2);
        c.due("about(0, 3)", x.about(0, 3), 6000);
        c.due("about(1, 0)", x.about(1, 0), 7);
        c.due("about(1, 1)", x.about(1, 1), 50);
        c.due("about(1, 2)", x.about(1, 2), 6);
        c.due("about(1, 3)", x.about(1, 3), 0);
    }

    private static void limit() {
        StarLists x = new StarLists();
        c.due("limit(0)", x.limit(0), 6);
        c.due("limit(3)", x.limit(3), 0);
        c.due("limit(6)", x.limit(6), 3);
        c.due("limit(6) again", x.limit(6), 6);
    }

    private static void way() {
        StarLists x = new StarLists();
        c.due("way(5, 5)", x.way(5, 5), 10800);
        c.due("way(100, 130)", x.way(100, 130), 10830);
        c.due("way(130, 100)", x.way(130, 100), 10770);
        c.due("way(21590, 10)", x.way(21590, 10), 10820);
        c.due("way(10, 21590)", x.way(10, 21590), 10780);
        c.due("way(0, 10799)", x.way(0, 10799), 21599);
        c.due("way(0, 10800)", x.way(0, 10800), 0);
        c.due("way(10800, 0)", x.way(10800, 0), 0);
        c.due("way(10801, 0)", x.way(10801, 0), 21599);
        c.due("way(0, 21599)", x.way(0, 21599), 10799);
    }
}
