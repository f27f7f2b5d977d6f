/** Promises 12 to 18 with ordinary inputs: slip, cost, best, matched, dated, doubt, shift. */
public final class MatchesTest {
    private static final Checks c = new Checks();

    public static void main(String[] args) {
        plainSlip();
        signSlip();
        houseSlip();
        tensSlip();
        slipsInTurnedSky();
        best();
        bestAgainstLeft();
        bestIsNotGreedy();
        likeOnes();
        matchesUnderLimit();
        dated();
        doubt();
        shift();
        shiftOfLikeMatches();
        c.end("MatchesTest");
    }

    /** One star, and one line against it: its slip and its cost, or NONE in both. */
    private static void against(int star, int starWide, int line, int wide, int slip, int cost) {
        StarLists x = new StarLists();
        x.star(star, starWide, 0, 6);
        x.list();
        x.line(0, line, wide);
        String told = "line " + line + " " + wide + " against star " + star + " " + starWide;
        c.due("slip: " + told, x.slip(0, 0, 0, 0, 0), slip);
        c.due("cost: " + told, x.cost(0, 0, 0, 0, 0), cost);
    }

    private static void noMatch(int star, int starWide, int line, int wide) {
        against(star, starWide, line, wide, Checks.NONE, Checks.NONE);
    }

    private static void plainSlip() {
        against(5000, 2000, 5000, 2000, 0, 0);
        against(5000, 2000, 5007, 1995, 0, 12);
        against(5000, 2000, 5030, 2030, 0, 60);
        against(5000, 2000, 4970, 1970, 0, 60);
        noMatch(5000, 2000, 5031, 2000);
        noMatch(5000, 2000, 4969, 2000);
        noMatch(5000, 2000, 5000, 2031);
        noMatch(5000, 2000, 5000, 1969);
        against(21590, 0, 10, 0, 0, 20);
        against(10, 0, 21590, 0, 0, 20);
    }

    private static void signSlip() {
        against(5000, 2000, 5000, -2000, 1, 40);
        against(5000, -2000, 4993, 2005, 1, 52);
        against(5000, 2000, 5030, -1970, 1, 100);
        against(5000, 2000, 4970, -2030, 1, 100);
        noMatch(5000, 2000, 5031, -2000);
        noMatch(5000, 2000, 5000, -1969);
        noMatch(5000, 2000, 5000, -2031);
        against(5000, 15, 5000, -15, 0, 30);
        against(5000, 16, 5000, -16, 1, 40);
    }

    private static void houseSlip() {
        against(5000, 2000, 6800, 2000, 2, 50);
        against(5000, 2000, 3200, 2000, 2, 50);
        against(5000, 2000, 6830, 2030, 2, 110);
        against(5000, 2000, 6770, 1970, 2, 110);
        against(5000, 2000, 3230, 2003, 2, 83);
        against(5000, 2000, 3170, 1996, 2, 84);
        noMatch(5000, 2000, 6831, 2000);
        noMatch(5000, 2000, 6769, 2000);
        noMatch(5000, 2000, 3231, 2000);
        noMatch(5000, 2000, 3169, 2000);
        noMatch(5000, 2000, 6800, 2031);
        noMatch(5000, 2000, 6800, -2000);
        against(1000, 0, 20805, 0, 2, 55);
        against(20805, 0, 1000, 0, 2, 55);
    }

    private static void tensSlip() {
        against(5000, 2000, 5600, 2000, 3, 45);
        against(5000, 2000, 4400, 2000, 3, 45);
        against(5000, 2000, 5630, 1970, 3, 105);
        against(5000, 2000, 5570, 2030, 3, 105);
        against(5000, 2000, 4369 + 1, 2001, 3, 76);
        noMatch(5000, 2000, 5631, 2000);
        noMatch(5000, 2000, 5569, 2000);
        noMatch(5000, 2000, 4369, 2000);
        noMatch(5000, 2000, 5600, 2031);
        against(5000, 2000, 5000, 2600, 3, 45);
        against(5000, 2000, 5000, 1400, 3, 45);
        against(5000, 2000, 5030, 2630, 3, 105);
        against(5000, 2000, 4970, 1370, 3, 105);
        noMatch(5000, 2000, 5000, 2631);
        noMatch(5000, 2000, 5000, 1369);
        noMatch(5000, 2000, 5031, 2600);
        noMatch(5000, 2000, 5600, 2600);
        // a sign and a ten hold both: the lesser cost
        against(5000, 300, 5000, -300, 1, 40);
        against(5000, 310, 5000, -290, 3, 45);
        against(5000, 303, 5000, -300, 1, 43);
        against(5000, 304, 5000, -302, 1, 42);
    }

    private static void slipsInTurnedSky() {
        StarLists x = new StarLists();
        x.star(21000, 100, 50, 6);
        x.list();
        x.line(0, 3400, 100);
        x.limit(0);
        c.due("sky(0, 3000)", x.sky(0, 3000), 3400);
        c.due("slip in 3000", x.slip(0, 0, 0, 3000, 0), 0);
        c.due("cost in 3000", x.cost(0, 0, 0, 3000, 0), 0);
        c.due("cost with shift 30", x.cost(0, 0, 0, 3000, 30), 30);
        c.due("cost with shift -29", x.cost(0, 0, 0, 3000, -29), 29);
        c.due("slip with shift 31", x.slip(0, 0, 0, 3000, 31), Checks.NONE);
        c.due("slip with shift 600", x.slip(0, 0, 0, 3000, 600), 3);
        c.due("cost with shift -600", x.cost(0, 0, 0, 3000, -600), 45);
        c.due("slip in 0", x.slip(0, 0, 0, 0, 0), Checks.NONE);
        StarLists y = new StarLists();
        y.star(21400, 0, 0, 0);
        y.list();
        y.line(0, 395, 0);
        c.due("a shift leads round", y.cost(0, 0, 0, 0, 600), 5);
        y.star(200, 0, 0, 0);
        y.line(0, 21210, 0);
        c.due("and back", y.cost(0, 1, 1, 0, -600), 10);
    }

    private static void best() {
        StarLists x = new StarLists();
        x.star(1000, 600, 0, 0);
        x.star(9000, -600, 0, 0);
        x.list();
        x.list();
        c.due("best of no lines", x.best(0, 0, 0), 0);
        x.line(0, 1004, 597);
        x.line(0, 9000, 600);
        x.line(0, 15000, 0);
        c.due("a pair of 7, one of 40, one left", x.best(0, 0, 0), 147);
        c.due("matched(0, 0)", x.matched(0, 0, 0, 0), 0);
        c.due("matched(0, 1)", x.matched(0, 1, 0, 0), 1);
        c.due("matched(0, 2)", x.matched(0, 2, 0, 0), Checks.NONE);
        c.due("the other list", x.best(1, 0, 0), 0);
        for (int i = 0; i < 8; i++) x.line(1, 12000, 0);
        c.due("eight left", x.best(1, 0, 0), 800);
        c.due("best in 12", x.best(0, 12, 0), (6 + 3) + (10 + 40) + 100);
        c.due("best with shift 4", x.best(0, 0, 4), 3 + 44 + 100);
        c.due("best at the edges", x.best(0, 3000, 600), 300);
        c.due("best at the other edges", x.best(0, -3000, -600), 300);
        x.mend(0, 2, 1000, 600);
        c.due("a star is in one pair alone", x.best(0, 0, 0), 0 + 40 + 100);
        c.due("the line of less cost has it", x.matched(0, 2, 0, 0), 0);
        c.due("the other one is left", x.matched(0, 0, 0, 0), Checks.NONE);
    }

    private static void bestAgainstLeft() {
        StarLists x = new StarLists();
        x.star(5000, 2000, 0, 0);
        x.list();
        x.line(0, 5030, -1970);
        c.due("a pair of 100", x.best(0, 0, 0), 100);
        c.due("comes ahead of a line left", x.matched(0, 0, 0, 0), 0);
        x.mend(0, 0, 6830, 2001);
        c.due("a pair of 81", x.best(0, 0, 0), 81);
        x.mend(0, 0, 6830, 2021);
        c.due("a pair of 101 is dearer than a line left", x.best(0, 0, 0), 100);
        c.due("and not in the match", x.matched(0, 0, 0, 0), Checks.NONE);
        c.due("yet it has a slip", x.slip(0, 0, 0, 0, 0), 2);
        c.due("and is no fault", x.fault(0, 0, 0, 0), 0);
    }

    private static void bestIsNotGreedy() {
        StarLists x = new StarLists();
        x.star(100, 0, 0, 0);
        x.star(140, 0, 0, 0);
        x.list();
        x.line(0, 115, 0);
        x.line(0, 80, 0);
        c.due("the first gives way", x.best(0, 0, 0), 25 + 20);
        c.due("matched(0, 0)", x.matched(0, 0, 0, 0), 1);
        c.due("matched(0, 1)", x.matched(0, 1, 0, 0), 0);
        // stars in a chain: each line must take the farther one
        StarLists y = new StarLists();
        for (int i = 0; i < 8; i++) y.star(1000 + 40 * i, 0, 0, 0);
        y.list();
        for (int i = 0; i < 7; i++) y.line(0, 1015 + 40 * i, 0);
        y.line(0, 990, 0);
        c.due("all seven give way", y.best(0, 0, 0), 7 * 25 + 10);
        for (int i = 0; i < 7; i++) c.due("matched " + i, y.matched(0, i, 0, 0), i + 1);
        c.due("matched 7", y.matched(0, 7, 0, 0), 0);
    }

    private static void likeOnes() {
        StarLists x = new StarLists();
        for (int i = 0; i < 8; i++) x.star(500, 0, 0, 0);
        x.list();
        for (int i = 0; i < 8; i++) x.line(0, 510, 0);
        c.due("eight like lines and stars", x.best(0, 0, 0), 80);
        for (int i = 0; i < 8; i++) c.due("matched " + i, x.matched(0, i, 0, 0), i);
        StarLists y = new StarLists();
        y.star(500, 0, 0, 0);
        y.list();
        y.line(0, 9000, 0);
        y.line(0, 510, 0);
        y.line(0, 490, 0);
        c.due("two like lines, one star", y.best(0, 0, 0), 210);
        c.due("the lesser line has it", y.matched(0, 1, 0, 0), 0);
        c.due("the greater is left", y.matched(0, 2, 0, 0), Checks.NONE);
        StarLists z = new StarLists();
        z.star(130, 0, 0, 0);
        z.star(100, 0, 0, 0);
        z.list();
        z.line(0, 110, 0);
        z.line(0, 120, 0);
        c.due("the lesser cost", z.best(0, 0, 0), 20);
        c.due("ahead of the lesser star", z.matched(0, 0, 0, 0), 1);
        z.mend(0, 0, 115, 0);
        z.mend(0, 1, 115, 0);
        c.due("like cost", z.best(0, 0, 0), 30);
        c.due("the lesser star to the lesser line", z.matched(0, 0, 0, 0), 0);
    }

    private static void matchesUnderLimit() {
        StarLists x = new StarLists();
        x.star(500, 0, 0, 4);
        x.star(500, 0, 0, 3);
        x.star(510, 0, 0, 2);
        x.list();
        x.line(0, 500, 0);
        c.due("no limit", x.matched(0, 0, 0, 0), 0);
        x.limit(4);
        c.due("as faint as the limit counts", x.matched(0, 0, 0, 0), 0);
        x.limit(3);
        c.due("fainter does not", x.matched(0, 0, 0, 0), 1);
        c.due("slip does not look at it", x.slip(0, 0, 0, 0, 0), 0);
        c.due("cost does not look at it", x.cost(0, 0, 0, 0, 0), 0);
        x.limit(2);
        c.due("the last one", x.best(0, 0, 0), 10);
        c.due("the shift that is told", x.shift(0, 0), 30 - 10);
        x.limit(1);
        c.due("none is left", x.best(0, 0, 0), 100);
        c.due("matched", x.matched(0, 0, 0, 0), Checks.NONE);
        c.due("no shift", x.shift(0, 0), Checks.NONE);
        x.limit(6);
        c.due("all again", x.best(0, 0, 0), 0);
    }

    private static void dated() {
        StarLists x = new StarLists();
        x.star(1000, 0, 0, 0);
        x.list();
        c.due("no lines: the first year", x.dated(0, 0, 17, 400), 3017);
        x.line(0, 1100, 0);
        c.due("120 years turn by 100", x.dated(0, 0, 0, 400), 3120);
        c.due("the years go from from: 115 costs 5, 125 costs 4", x.dated(0, 0, 5, 405), 3125);
        c.due("not beyond to", x.dated(0, 0, 0, 110), 3110);
        c.due("not beyond to, off the step", x.dated(0, 0, 0, 119), 3110);
        c.due("nor short of it", x.dated(0, 0, 0, 120), 3120);
        c.due("the second year", x.dated(0, 0, 110, 400), 3120);
        c.due("one year", x.dated(0, 0, -7, -7), 2993);
        c.due("with shift 50", x.dated(0, 50, 0, 400), 3060);
        c.due("with shift -50", x.dated(0, -50, 0, 400), 3180);
        c.due("41 years", x.dated(0, 0, -289, 120), 3000 - 289 + 400);
        c.due("of like ones the first", x.dated(0, 0, -3000, -2600), 0);
        c.due("the last years", x.dated(0, 0, 2600, 3000), 5600);
        x.line(0, 1125, 0);
        x.star(1000, 5000, 0, 0);
        c.due("two lines, one star: the year of the first", x.dated(0, 0, 0, 400), 3120);
        x.mend(0, 0, 1105, 0);
        c.due("two that cost 100 and 105: 120 of 5, 130 of 4", x.dated(0, 0, 0, 130), 3130);
        c.due("150 of 0", x.dated(0, 0, 0, 400), 3150);
    }

    private static void doubt() {
        StarLists x = new StarLists();
        x.star(1000, 0, 0, 0);
        x.list();
        c.due("no lines: all years", x.doubt(0, 0, 0, 400, 0), 41);
        x.line(0, 1100, 0);
        // in 100, 110, 120, 130, 140 the pair costs 17, 9, 0, 8, 16
        c.due("slack 0", x.doubt(0, 0, 0, 400, 0), 1);
        c.due("slack 7", x.doubt(0, 0, 0, 400, 7), 1);
        c.due("slack 8", x.doubt(0, 0, 0, 400, 8), 2);
        c.due("slack 9", x.doubt(0, 0, 0, 400, 9), 3);
        c.due("slack 16", x.doubt(0, 0, 0, 400, 16), 4);
        c.due("slack 17", x.doubt(0, 0, 0, 400, 17), 5);
        c.due("slack 800", x.doubt(0, 0, 0, 400, 800), 41);
        c.due("slack 99: less than a line left", x.doubt(0, 0, 0, 400, 99), 7);
        c.due("slack 100: as much as a line left", x.doubt(0, 0, 0, 400, 100), 41);
        c.due("the least in the first year", x.doubt(0, 0, 120, 400, 0), 1);
        c.due("the least in the second year", x.doubt(0, 0, 110, 400, 0), 1);
        c.due("to 119", x.doubt(0, 0, 0, 119, 8), 2);
        c.due("with shift 100", x.doubt(0, 100, -100, 0, 8), 1);
        c.due("one year", x.doubt(0, 0, 5, 14, 0), 1);
        c.due("two years that are like", x.doubt(0, 0, 5, 15, 0), 2);
    }

    private static void shift() {
        StarLists x = new StarLists();
        for (int i = 0; i < 5; i++) x.star(1000 + 2000 * i, 100, 0, 0);
        x.list();
        c.due("no lines", x.shift(0, 0), Checks.NONE);
        x.line(0, 1600, 100);
        c.due("a line with a slip alone", x.shift(0, 0), Checks.NONE);
        x.line(0, 3030, 100);
        c.due("one line", x.shift(0, 0), 60);
        x.line(0, 4970, 100);
        c.due("of two the lesser", x.shift(0, 0), 0);
        x.line(0, 7007, 100);
        c.due("of three the middle one", x.shift(0, 0), 37);
        x.line(0, 8995, 100);
        c.due("of four the second", x.shift(0, 0), 25);
        x.mend(0, 0, 1001, 100);
        c.due("of five the third", x.shift(0, 0), 31);
        x.mend(0, 0, 1001, -100);
        c.due("a line with a sign slipped is not asked", x.shift(0, 0), 25);
        x.mend(0, 0, 15000, 100);
        c.due("a line that is left is not asked", x.shift(0, 0), 25);
        c.due("in another year", x.shift(0, -12), 35);
    }

    private static void shiftOfLikeMatches() {
        StarLists x = new StarLists();
        x.star(100, 10, 0, 0);
        x.star(130, -10, 0, 0);
        x.list();
        x.line(0, 115, 0);
        c.due("the lesser star of like ones tells", x.shift(0, 0), 45);
    }
}
