/** Promises 12 to 18 at their edges, a test for each sentence that names one. */
public final class MatchesEdgesTest {
    private static final int UNKNOWN = Checks.UNKNOWN, OUTSIDE = Checks.OUTSIDE, NONE = Checks.NONE;
    private static final Checks c = new Checks();

    public static void main(String[] args) {
        slips();
        bestMatches();
        years();
        shifts();
        c.end("MatchesEdgesTest", 12, 13, 14, 15, 16, 17, 18);
    }

    private static void slips() {
        slipNone();
        slipSign();
        slipHouse();
        slipTensOfLong();
        slipTensOfWide();
        slipOfLeastCost();
        slipRound();
        slipInYearsAndShifts();
        slipLooksAtNoLimit();
        slipUnknown();
        slipOutside();
        slipOrder();
    }

    private static void bestMatches() {
        bestOfNoLines();
        bestOfNoStars();
        bestOfEight();
        bestOfAPairAndALineLeft();
        bestOfOneStarForTwoLines();
        bestUnderTheLimit();
        bestOfNoneUnderTheLimit();
        bestInYearsAndShifts();
        bestRefused();
        matchedLeft();
        matchedLesserStar();
        matchedLeftBehindAllStars();
        matchedInYearsAndShifts();
        matchedRefused();
    }

    private static void years() {
        datedOfNoLines();
        datedOfLikeYears();
        datedOfOneYear();
        datedNotBeyondTo();
        datedOfMostYears();
        datedUnderTheLimit();
        datedRefused();
        doubtOfNoLines();
        doubtAtTheSlack();
        doubtOfLeastAndGreatestSlack();
        doubtNotBeyondTo();
        doubtOfMostYears();
        doubtUnderTheLimit();
        doubtRefused();
    }

    private static void shifts() {
        shiftOfNoSuchLine();
        shiftLeastAndGreatest();
        shiftOfOneToEight();
        shiftInYears();
        shiftUnderTheLimit();
        shiftRefused();
    }

    /** Two LISTS: list 0 with this line alone, list 1 with none; star 0 at LONG 5000 with this WIDE. */
    private static StarLists against(int starWide, int d, int wide) {
        StarLists x = new StarLists();
        x.star(5000, starWide, 0, 6);
        x.list();
        x.list();
        x.line(0, 5000 + d, wide);
        return x;
    }

    /** THE SLIP is promise 12's and its COST promise 13's. */
    private static void slip(String words, int starWide, int d, int wide, int slip, int cost) {
        StarLists x = against(starWide, d, wide);
        String told = "d " + d + ", WIDE " + wide + " against " + starWide;
        c.promise(12, words);
        c.due(told, x.slip(0, 0, 0, 0, 0), slip);
        c.promise(13, words);
        c.due(told, x.cost(0, 0, 0, 0, 0), cost);
    }

    private static void slipNone() {
        String words = "0 NONE: d, e are 30 at most in size: both in size together";
        slip(words, 2000, 0, 2000, 0, 0);
        for (int side : new int[] {-1, 1}) {
            slip(words, 2000, 30 * side, 2000, 0, 30);
            slip(words, 2000, 0, 2000 + 30 * side, 0, 30);
            slip(words, 2000, 30 * side, 2030, 0, 60);
            slip(words, 2000, 30 * side, 1970, 0, 60);
            slip(words, 2000, 31 * side, 2000, NONE, NONE);
            slip(words, 2000, 0, 2000 + 31 * side, NONE, NONE);
        }
    }

    private static void slipSign() {
        String words = "1 SIGN: d, and the LINE's WIDE and the STAR's together, are 30 at most in size, and 40";
        slip(words, 2000, 0, -2000, 1, 40);
        slip(words, 5400, 0, -5400, 1, 40);
        slip(words, -5400, 0, 5400, 1, 40);
        for (int side : new int[] {-1, 1}) {
            slip(words, 2000, 30 * side, -2000, 1, 70);
            slip(words, 2000, 0, -2000 + 30 * side, 1, 70);
            slip(words, 2000, 30 * side, -1970, 1, 100);
            slip(words, -2000, 30 * side, 1970, 1, 100);
            slip(words, 2000, 31 * side, -2000, NONE, NONE);
            slip(words, 2000, 0, -2000 + 31 * side, NONE, NONE);
        }
    }

    private static void slipHouse() {
        String words = "2 HOUSE: d less 1800, or d and 1800, and e are 30 at most in size, and 50";
        for (int side : new int[] {-1, 1}) {
            slip(words, 2000, 1800 * side, 2000, 2, 50);
            for (int off : new int[] {-1, 1}) {
                slip(words, 2000, 1800 * side + 30 * off, 2000, 2, 80);
                slip(words, 2000, 1800 * side, 2000 + 30 * off, 2, 80);
                slip(words, 2000, 1800 * side + 30 * off, 1970, 2, 110);
                slip(words, 2000, 1800 * side + 31 * off, 2000, NONE, NONE);
                slip(words, 2000, 1800 * side, 2000 + 31 * off, NONE, NONE);
            }
        }
        slip("a HOUSE and a SIGN together are no SLIP", 2000, 1800, -2000, NONE, NONE);
    }

    private static void slipTensOfLong() {
        String words = "3 TENS: d less 600, or d and 600, and e are 30 at most in size, and 45";
        for (int side : new int[] {-1, 1}) {
            slip(words, 2000, 600 * side, 2000, 3, 45);
            for (int off : new int[] {-1, 1}) {
                slip(words, 2000, 600 * side + 30 * off, 2000, 3, 75);
                slip(words, 2000, 600 * side, 2000 + 30 * off, 3, 75);
                slip(words, 2000, 600 * side + 30 * off, 2030, 3, 105);
                slip(words, 2000, 600 * side + 31 * off, 2000, NONE, NONE);
                slip(words, 2000, 600 * side, 2000 + 31 * off, NONE, NONE);
            }
        }
    }

    private static void slipTensOfWide() {
        String words = "3 TENS: or d, and e less 600, or e and 600, are 30 at most in size, and 45";
        for (int side : new int[] {-1, 1}) {
            slip(words, 2000, 0, 2000 + 600 * side, 3, 45);
            for (int off : new int[] {-1, 1}) {
                slip(words, 2000, 30 * off, 2000 + 600 * side, 3, 75);
                slip(words, 2000, 0, 2000 + 600 * side + 30 * off, 3, 75);
                slip(words, 2000, 30 * off, 2030 + 600 * side, 3, 105);
                slip(words, 2000, 31 * off, 2000 + 600 * side, NONE, NONE);
                slip(words, 2000, 0, 2000 + 600 * side + 31 * off, NONE, NONE);
            }
        }
        slip("TENS of both together are no SLIP", 2000, 600, 2600, NONE, NONE);
    }

    /** Of like COST two SLIPS of one pair never are: e and both WIDES together are even or odd together. */
    private static void slipOfLeastCost() {
        String words = "THE SLIP is the one of least COST";
        slip(words + ", NONE or SIGN", 0, 0, 0, 0, 0);
        slip(words + ", NONE or SIGN", 15, 30, -15, 0, 60);
        slip(words + ", SIGN when NONE no longer holds", 16, 30, -15, 1, 71);
        slip(words + ", SIGN or TENS", 300, 0, -300, 1, 40);
        slip(words + ", SIGN of 44 or TENS of 45", 302, 0, -298, 1, 44);
        slip(words + ", SIGN of 46 or TENS of 45", 303, 0, -297, 3, 45);
        slip(words + ", SIGN of 44 or TENS of 45, the other side", -302, 0, 298, 1, 44);
        slip(words + ", SIGN of 46 or TENS of 45, the other side", -303, 0, 297, 3, 45);
    }

    private static void turned(String words, int star, int shift, int line, int slip, int cost) {
        StarLists x = new StarLists();
        x.star(star, 0, 0, 0);
        x.list();
        x.line(0, line, 0);
        c.promise(12, words);
        c.due(star + " and " + shift + " to " + line, x.slip(0, 0, 0, 0, shift), slip);
        c.promise(13, words);
        c.due(star + " and " + shift + " to " + line, x.cost(0, 0, 0, 0, shift), cost);
    }

    private static void slipRound() {
        String words = "THE WAY from the STAR's LONG and SHIFT to the LINE's, round 21600";
        turned(words, 21599, 0, 0, 0, 1);
        turned(words, 0, 0, 21599, 0, 1);
        turned(words, 21590, 0, 20, 0, 30);
        turned(words, 21590, 0, 21, NONE, NONE);
        turned(words, 20, 0, 21590, 0, 30);
        turned(words, 21, 0, 21590, NONE, NONE);
        turned(words, 21000, 0, 1200, 2, 50);
        turned(words, 1200, 0, 21000, 2, 50);
        turned(words, 21300, 0, 300, 3, 45);
        turned(words, 300, 0, 21300, 3, 45);
        turned(words, 21000, 600, 0, 0, 0);
        turned(words, 21599, 600, 599, 0, 0);
        turned(words, 599, -600, 21599, 0, 0);
        turned(words, 0, -600, 21000, 0, 0);
        turned(words, 0, 0, 10800, NONE, NONE);
        turned(words, 10800, 0, 0, NONE, NONE);
    }

    /** A star at LONG 0 in the year 0; lines where it stands in the first and last year with a shift. */
    private static StarLists farYears() {
        StarLists x = new StarLists();
        x.star(0, 0, 0, 0);
        x.list();
        x.line(0, 2500 + 600, 0);
        x.line(0, 21600 - 2500 - 600, 0);
        return x;
    }

    private static void slipInYearsAndShifts() {
        StarLists x = farYears();
        c.promise(12, "a YEAR, -3000 to 3000, a SHIFT, -600 to 600: the last ones are taken");
        c.due("slip in 3000 with 600", x.slip(0, 0, 0, 3000, 600), 0);
        c.due("slip in -3000 with -600", x.slip(0, 1, 0, -3000, -600), 0);
        c.due("slip in 3000 without", x.slip(0, 0, 0, 3000, 0), 3);
        c.due("slip in 3000 with -600", x.slip(0, 0, 0, 3000, -600), NONE);
        c.promise(13, "a YEAR, -3000 to 3000, a SHIFT, -600 to 600: the last ones are taken");
        c.due("cost in 3000 with 600", x.cost(0, 0, 0, 3000, 600), 0);
        c.due("cost in -3000 with -600", x.cost(0, 1, 0, -3000, -600), 0);
        c.due("cost in -3000 without", x.cost(0, 1, 0, -3000, 0), 45);
        c.due("cost in -3000 with 600", x.cost(0, 1, 0, -3000, 600), NONE);
    }

    private static void slipLooksAtNoLimit() {
        StarLists x = against(2000, 600, 2000);
        x.limit(0);
        c.promise(12, "THE LIMIT is not looked at");
        c.due("slip of a STAR of LIGHT 6, limit 0", x.slip(0, 0, 0, 0, 0), 3);
        c.promise(13, "as slip(): THE LIMIT is not looked at");
        c.due("cost of a STAR of LIGHT 6, limit 0", x.cost(0, 0, 0, 0, 0), 45);
    }

    private static void slipUnknown() {
        StarLists x = against(2000, 0, 2000);
        String before = Checks.stateOf(x);
        c.promise(12, "UNKNOWN: list, line, star");
        c.refused("slip, LIST", 0, 1, UNKNOWN, n -> x.slip(n, 0, 0, 0, 0));
        c.refused("slip, LINE", 0, 0, UNKNOWN, n -> x.slip(0, n, 0, 0, 0));
        c.due("slip, LIST without LINES", x.slip(1, 0, 0, 0, 0), UNKNOWN);
        c.refused("slip, STAR", 0, 0, UNKNOWN, n -> x.slip(0, 0, n, 0, 0));
        c.unchanged(x, before);
        c.promise(13, "as slip(): UNKNOWN: list, line, star");
        c.refused("cost, LIST", 0, 1, UNKNOWN, n -> x.cost(n, 0, 0, 0, 0));
        c.refused("cost, LINE", 0, 0, UNKNOWN, n -> x.cost(0, n, 0, 0, 0));
        c.due("cost, LIST without LINES", x.cost(1, 0, 0, 0, 0), UNKNOWN);
        c.refused("cost, STAR", 0, 0, UNKNOWN, n -> x.cost(0, 0, n, 0, 0));
        c.unchanged(x, before);
    }

    private static void slipOutside() {
        StarLists x = against(2000, 0, 2000);
        String before = Checks.stateOf(x);
        c.promise(12, "OUTSIDE: year, shift");
        c.refused("slip, year", -3000, 3000, OUTSIDE, n -> x.slip(0, 0, 0, n, 0));
        c.refused("slip, shift", -600, 600, OUTSIDE, n -> x.slip(0, 0, 0, 0, n));
        c.promise(13, "as slip(): OUTSIDE: year, shift");
        c.refused("cost, year", -3000, 3000, OUTSIDE, n -> x.cost(0, 0, 0, n, 0));
        c.refused("cost, shift", -600, 600, OUTSIDE, n -> x.cost(0, 0, 0, 0, n));
        c.unchanged(x, before);
    }

    private static void slipOrder() {
        StarLists x = against(2000, 0, 2000);
        int[][] unknown = {{2, 0, 0}, {0, 1, 0}, {0, 0, 1}, {-1, -1, -1}};
        for (int[] u : unknown) {
            c.promise(12, "UNKNOWN ahead of OUTSIDE");
            c.due("slip, year", x.slip(u[0], u[1], u[2], 3001, 0), UNKNOWN);
            c.due("slip, shift", x.slip(u[0], u[1], u[2], 0, -601), UNKNOWN);
            c.promise(13, "UNKNOWN ahead of OUTSIDE");
            c.due("cost, year", x.cost(u[0], u[1], u[2], -3001, 0), UNKNOWN);
            c.due("cost, shift", x.cost(u[0], u[1], u[2], 0, 601), UNKNOWN);
        }
    }

    private static void bestOfNoLines() {
        c.promise(14, "what THE BEST MATCH of a LIST costs: without LINES");
        StarLists x = new StarLists();
        x.list();
        c.due("and without STARS", x.best(0, 0, 0), 0);
        for (int i = 0; i < 8; i++) x.star(0, 0, 0, 0);
        c.due("and eight STARS", x.best(0, 0, 0), 0);
        x.list();
        x.line(1, 0, 0);
        c.due("behind another LIST that was asked", x.best(1, 0, 0) + x.best(0, 0, 0), 0);
    }

    private static void bestOfNoStars() {
        c.promise(14, "100 for each LINE that is left: without STARS");
        StarLists x = new StarLists();
        x.list();
        for (int i = 1; i <= 8; i++) {
            x.line(0, 0, 0);
            c.due(i + " LINES", x.best(0, 0, 0), 100 * i);
        }
    }

    /** Eight STARS one house and a half from one another, all of WIDE 2000, and a LIST without LINES. */
    private static StarLists eightStars() {
        StarLists x = new StarLists();
        for (int i = 0; i < 8; i++) x.star(2700 * i, 2000, 0, i % 7);
        x.list();
        return x;
    }

    private static void bestOfEight() {
        c.promise(14, "pairs of a LINE and a STAR, none in two pairs: eight of both");
        StarLists x = eightStars();
        for (int i = 0; i < 8; i++) x.line(0, 2700 * (7 - i) + i, 2000);
        c.due("best", x.best(0, 0, 0), 1 + 2 + 3 + 4 + 5 + 6 + 7);
        c.promise(15, "the STAR of a LINE: eight of both");
        for (int i = 0; i < 8; i++) c.due("matched(0, " + i + ")", x.matched(0, i, 0, 0), 7 - i);
        x.mend(0, 7, 7, 2031);
        c.due("the last LINE is left", x.matched(0, 7, 0, 0), NONE);
        c.promise(14, "100 for each LINE that is left: one of eight");
        c.due("best", x.best(0, 0, 0), 21 + 100);
    }

    private static void bestOfAPairAndALineLeft() {
        c.promise(14, "the COST of each pair, and 100 for each LINE that is left: a pair of 99, 100, 101");
        StarLists x = against(2000, 1830, 2019);
        c.due("cost of 99", x.cost(0, 0, 0, 0, 0), 99);
        c.due("best", x.best(0, 0, 0), 99);
        x.mend(0, 0, 6830, 2020);
        c.due("cost of 100", x.cost(0, 0, 0, 0, 0), 100);
        c.due("best", x.best(0, 0, 0), 100);
        x.mend(0, 0, 6830, 2021);
        c.due("cost of 101", x.cost(0, 0, 0, 0, 0), 101);
        c.due("best", x.best(0, 0, 0), 100);
        x.line(0, 6830, 2030);
        c.due("best of two that are dearer", x.best(0, 0, 0), 200);
    }

    private static void bestOfOneStarForTwoLines() {
        c.promise(14, "none in two pairs");
        StarLists x = against(2000, 0, 2000);
        x.line(0, 5001, 2000);
        c.due("one STAR, two LINES", x.best(0, 0, 0), 100);
        x.star(5000, 2000, 0, 0);
        c.due("two STARS, two LINES", x.best(0, 0, 0), 1);
        StarLists y = new StarLists();
        y.star(5000, 2000, 0, 0);
        y.star(5000, 2000, 0, 0);
        y.list();
        y.line(0, 5003, 2000);
        c.due("two STARS, one LINE", y.best(0, 0, 0), 3);
    }

    private static StarLists bright() {
        StarLists x = new StarLists();
        x.star(5000, 2000, 0, 4);
        x.star(5010, 2000, 0, 3);
        x.star(5020, 2000, 0, 0);
        x.list();
        x.line(0, 5000, 2000);
        return x;
    }

    private static void bestUnderTheLimit() {
        StarLists x = bright();
        int[][] due = {{6, 0, 0}, {4, 0, 0}, {3, 10, 1}, {2, 20, 2}, {0, 20, 2}};
        for (int[] d : due) {
            x.limit(d[0]);
            c.promise(14, "STARS that are fainter than THE LIMIT count for nothing");
            c.due("best, limit " + d[0], x.best(0, 0, 0), d[1]);
            c.promise(15, "STARS that are fainter than THE LIMIT count for nothing");
            c.due("matched, limit " + d[0], x.matched(0, 0, 0, 0), d[2]);
        }
    }

    private static void bestOfNoneUnderTheLimit() {
        StarLists x = against(2000, 0, 2000);
        x.limit(5);
        c.promise(14, "STARS that are fainter than THE LIMIT count for nothing: all are");
        c.due("best", x.best(0, 0, 0), 100);
        c.promise(15, "STARS that are fainter than THE LIMIT count for nothing: all are");
        c.due("matched", x.matched(0, 0, 0, 0), NONE);
    }

    private static void bestInYearsAndShifts() {
        c.promise(14, "a YEAR, -3000 to 3000, a SHIFT, -600 to 600: the last ones are taken");
        StarLists x = farYears();
        c.due("best in 3000 with 600", x.best(0, 3000, 600), 100);
        c.due("best in -3000 with -600", x.best(0, -3000, -600), 100);
        c.due("best in 3000 without", x.best(0, 3000, 0), 145);
        c.due("best in -3000 with 600", x.best(0, -3000, 600), 200);
    }

    private static void bestRefused() {
        StarLists x = against(2000, 0, 2000);
        String before = Checks.stateOf(x);
        c.promise(14, "UNKNOWN");
        c.refused("LIST", 0, 1, UNKNOWN, n -> x.best(n, 0, 0));
        c.promise(14, "OUTSIDE: year, shift");
        c.refused("year", -3000, 3000, OUTSIDE, n -> x.best(0, n, 0));
        c.refused("shift", -600, 600, OUTSIDE, n -> x.best(0, 0, n));
        c.refused("year, without LINES", -3000, 3000, OUTSIDE, n -> x.best(1, n, 0));
        c.promise(14, "UNKNOWN ahead of OUTSIDE");
        c.due("LIST 2, year 3001", x.best(2, 3001, 0), UNKNOWN);
        c.due("LIST -1, shift 601", x.best(-1, 0, 601), UNKNOWN);
        c.promise(14, "what is refused changes nothing");
        c.unchanged(x, before);
    }

    private static void matchedLeft() {
        c.promise(15, "NONE: it is left");
        StarLists x = against(2000, 31, 2000);
        c.due("no STAR matches", x.matched(0, 0, 0, 0), NONE);
        x.mend(0, 0, 5030, 2000);
        c.due("one matches", x.matched(0, 0, 0, 0), 0);
        x.line(0, 5029, 2000);
        c.due("another LINE has the STAR", x.matched(0, 0, 0, 0), NONE);
        c.due("the other LINE", x.matched(0, 1, 0, 0), 0);
        x.mend(0, 0, 6830, 2021);
        x.mend(0, 1, 9000, 0);
        c.due("its pair costs 101", x.matched(0, 0, 0, 0), NONE);
        StarLists y = new StarLists();
        y.list();
        y.line(0, 0, 0);
        c.due("there are no STARS", y.matched(0, 0, 0, 0), NONE);
    }

    private static void matchedLesserStar() {
        c.promise(15, "of like ones, LINE by LINE, the lesser STAR");
        StarLists x = new StarLists();
        for (int i = 0; i < 8; i++) x.star(500, 0, 0, 0);
        x.list();
        x.line(0, 500, 0);
        c.due("eight like STARS", x.matched(0, 0, 0, 0), 0);
        for (int i = 0; i < 7; i++) x.line(0, 500, 0);
        for (int i = 0; i < 8; i++) c.due("eight like LINES, LINE " + i, x.matched(0, i, 0, 0), i);
        StarLists y = new StarLists();
        y.star(120, 0, 0, 0);
        y.star(110, 0, 0, 0);
        y.star(100, 0, 0, 0);
        y.list();
        for (int i = 0; i < 3; i++) y.line(0, 125, 0);
        for (int i = 0; i < 3; i++) c.due("three like sums, LINE " + i, y.matched(0, i, 0, 0), i);
        y.mend(0, 0, 101, 0);
        c.due("a lesser sum, the last STAR", y.matched(0, 0, 0, 0), 2);
        c.due("the first STAR to the next LINE", y.matched(0, 1, 0, 0), 0);
        c.due("the second STAR to the last LINE", y.matched(0, 2, 0, 0), 1);
    }

    private static void matchedLeftBehindAllStars() {
        c.promise(15, "a LINE that is left coming behind all STARS");
        StarLists x = new StarLists();
        for (int i = 0; i < 7; i++) x.star(9000, 5000, 0, 0);
        x.star(500, 0, 0, 0);
        x.list();
        x.line(0, 510, 0);
        x.line(0, 490, 0);
        c.due("the last STAR, the first of two like LINES", x.matched(0, 0, 0, 0), 7);
        c.due("the second is left", x.matched(0, 1, 0, 0), NONE);
        x.mend(0, 0, 15000, 0);
        x.line(0, 510, 0);
        c.due("a LINE without", x.matched(0, 0, 0, 0), NONE);
        c.due("the first of two behind it", x.matched(0, 1, 0, 0), 7);
        c.due("the second behind it", x.matched(0, 2, 0, 0), NONE);
        StarLists y = against(2000, 1830, 2020);
        c.due("a pair of 100 or left", y.matched(0, 0, 0, 0), 0);
    }

    private static void matchedInYearsAndShifts() {
        c.promise(15, "a YEAR, -3000 to 3000, a SHIFT, -600 to 600: the last ones are taken");
        StarLists x = farYears();
        c.due("LINE 0 in 3000 with 600", x.matched(0, 0, 3000, 600), 0);
        c.due("LINE 1 in 3000 with 600", x.matched(0, 1, 3000, 600), NONE);
        c.due("LINE 0 in -3000 with -600", x.matched(0, 0, -3000, -600), NONE);
        c.due("LINE 1 in -3000 with -600", x.matched(0, 1, -3000, -600), 0);
        c.due("LINE 0 in 3000 with -600", x.matched(0, 0, 3000, -600), NONE);
        c.due("LINE 1 in -3000 with 600", x.matched(0, 1, -3000, 600), NONE);
    }

    private static void matchedRefused() {
        StarLists x = against(2000, 0, 2000);
        String before = Checks.stateOf(x);
        c.promise(15, "UNKNOWN: list, line");
        c.refused("LIST", 0, 1, UNKNOWN, n -> x.matched(n, 0, 0, 0));
        c.refused("LINE", 0, 0, UNKNOWN, n -> x.matched(0, n, 0, 0));
        c.due("the first LINE of a LIST without", x.matched(1, 0, 0, 0), UNKNOWN);
        c.promise(15, "OUTSIDE");
        c.refused("year", -3000, 3000, OUTSIDE, n -> x.matched(0, 0, n, 0));
        c.refused("shift", -600, 600, OUTSIDE, n -> x.matched(0, 0, 0, n));
        c.promise(15, "UNKNOWN ahead of OUTSIDE");
        c.due("LIST 2, year 3001", x.matched(2, 0, 3001, 0), UNKNOWN);
        c.due("LINE 1, shift -601", x.matched(0, 1, 0, -601), UNKNOWN);
        c.promise(15, "what is refused changes nothing");
        c.unchanged(x, before);
    }

    /** A star at LONG 1000 in the year 0 and a list with one line; ten years turn the star by eight. */
    private static StarLists oneLine(int long0) {
        StarLists x = new StarLists();
        x.star(1000, 0, 0, 6);
        x.list();
        x.list();
        x.line(0, long0, 0);
        return x;
    }

    private static void datedOfNoLines() {
        c.promise(16, "the first of like ones: a LIST without LINES");
        StarLists x = oneLine(1000);
        c.due("from -400 to 0", x.dated(1, 0, -400, 0), 2600);
        c.due("from -3000", x.dated(1, 0, -3000, -2600), 0);
        c.due("from 3000", x.dated(1, 0, 3000, 3000), 6000);
    }

    private static void datedOfLikeYears() {
        c.promise(16, "the first of like ones");
        StarLists x = oneLine(1004);
        c.due("0 and 10 cost 4", x.dated(0, 0, -100, 100), 3000);
        c.due("10 alone", x.dated(0, 0, 10, 100), 3010);
        x.mend(0, 0, 1012, 0);
        c.due("10 and 20 cost 4", x.dated(0, 0, -100, 100), 3010);
        c.due("20 alone", x.dated(0, 0, 20, 100), 3020);
        x.mend(0, 0, 9000, 0);
        c.due("all cost 100", x.dated(0, 0, -100, 100), 2900);
    }

    private static void datedOfOneYear() {
        c.promise(16, "THE YEARS from .. to: one alone");
        StarLists x = oneLine(1008);
        c.due("from 0 to 0", x.dated(0, 0, 0, 0), 3000);
        c.due("from 0 to 9", x.dated(0, 0, 0, 9), 3000);
        c.due("from 3000 to 3000", x.dated(0, 0, 3000, 3000), 6000);
        c.due("from -3000 to -3000", x.dated(0, 0, -3000, -3000), 0);
        c.due("from 2999 to 3000", x.dated(0, 0, 2999, 3000), 5999);
    }

    private static void datedNotBeyondTo() {
        c.promise(16, "10, 20, .. years more, not beyond to");
        StarLists x = oneLine(1016);
        c.due("to 9", x.dated(0, 0, 0, 9), 3000);
        c.due("to 10", x.dated(0, 0, 0, 10), 3010);
        c.due("to 19", x.dated(0, 0, 0, 19), 3010);
        c.due("to 20", x.dated(0, 0, 0, 20), 3020);
        c.due("to 400", x.dated(0, 0, 0, 400), 3020);
        c.due("from 1, past by ten", x.dated(0, 0, 1, 20), 3011);
        c.due("from -15 to 15, through 0", x.dated(0, 0, -15, 15), 3015);
        c.due("from -15 to 14, through 0", x.dated(0, 0, -15, 14), 3005);
    }

    private static void datedOfMostYears() {
        c.promise(16, "OUTSIDE: there are more than 41");
        StarLists x = oneLine(1333);
        c.due("to 399", x.dated(0, 0, 0, 399), 3390);
        c.due("to 400, 41 years", x.dated(0, 0, 0, 400), 3400);
        c.due("to 409, 41 years", x.dated(0, 0, 0, 409), 3400);
        c.due("to 410, 42 years", x.dated(0, 0, 0, 410), OUTSIDE);
        c.due("-3000 to -2591", x.dated(0, 0, -3000, -2591), 0);
        c.due("-3000 to -2590", x.dated(0, 0, -3000, -2590), OUTSIDE);
        c.due("2591 to 3000", x.dated(0, 0, 2591, 3000), 5591);
        c.due("2590 to 3000", x.dated(0, 0, 2590, 3000), OUTSIDE);
        c.due("-3000 to 3000", x.dated(0, 0, -3000, 3000), OUTSIDE);
    }

    private static void datedUnderTheLimit() {
        c.promise(16, "STARS that are fainter than THE LIMIT count for nothing");
        StarLists x = oneLine(1016);
        x.star(1000 - 16, 0, 0, 5);
        c.due("limit 6", x.dated(0, 0, 0, 400), 3020);
        x.limit(5);
        c.due("limit 5, turned by 32 or 33", x.dated(0, 0, 0, 400), 3040);
        x.limit(4);
        c.due("limit 4, none", x.dated(0, 0, 0, 400), 3000);
    }

    private static void datedRefused() {
        StarLists x = oneLine(1016);
        String before = Checks.stateOf(x);
        c.promise(16, "UNKNOWN");
        c.refused("LIST", 0, 1, UNKNOWN, n -> x.dated(n, 0, 0, 0));
        c.promise(16, "OUTSIDE: shift");
        c.refused("shift", -600, 600, OUTSIDE, n -> x.dated(0, n, 0, 0));
        c.taken("shift", -600, 600, 3020, n -> oneLine(2216).dated(0, n, 0, 400));
        c.due("shift 0, none matches", oneLine(2216).dated(0, 0, 0, 400), 3000);
        c.promise(16, "OUTSIDE: years");
        c.refused("from", -3000, 3000, OUTSIDE, n -> x.dated(0, 0, n, Math.max(n, 0)));
        c.refused("to", -3000, 3000, OUTSIDE, n -> x.dated(0, 0, Math.min(n, 0), n));
        c.refused("both", -3000, 3000, OUTSIDE, n -> x.dated(0, 0, n, n));
        c.due("from -3001 to -3000", x.dated(0, 0, -3001, -3000), OUTSIDE);
        c.due("from 3000 to 3001", x.dated(0, 0, 3000, 3001), OUTSIDE);
        c.promise(16, "OUTSIDE: to is below from");
        c.due("from 1 to 0", x.dated(0, 0, 1, 0), OUTSIDE);
        c.due("from 3000 to -3000", x.dated(0, 0, 3000, -3000), OUTSIDE);
        c.due("from 10 to 0", x.dated(0, 0, 10, 0), OUTSIDE);
        c.promise(16, "UNKNOWN ahead of OUTSIDE");
        c.due("LIST 2, shift 601", x.dated(2, 601, 0, 0), UNKNOWN);
        c.due("LIST -1, to below from", x.dated(-1, 0, 1, 0), UNKNOWN);
        c.promise(16, "what is refused changes nothing");
        c.unchanged(x, before);
    }

    private static void doubtOfNoLines() {
        c.promise(17, "how many of THE YEARS: a LIST without LINES");
        StarLists x = oneLine(1000);
        c.due("41 years", x.doubt(1, 0, 0, 400, 0), 41);
        c.due("one year", x.doubt(1, 0, 0, 0, 800), 1);
    }

    private static void doubtAtTheSlack() {
        c.promise(17, "cost no more than the least and a slack");
        StarLists x = oneLine(1100);
        // in 100, 110, 120, 130, 140 it costs 17, 9, 0, 8, 16
        int[][] due = {{0, 1}, {7, 1}, {8, 2}, {9, 3}, {15, 3}, {16, 4}, {17, 5}, {99, 7}, {100, 41}};
        for (int[] d : due) c.due("slack " + d[0], x.doubt(0, 0, 0, 400, d[0]), d[1]);
        x.line(0, 9000, 0);
        for (int[] d : due) c.due("100 more in each, slack " + d[0], x.doubt(0, 0, 0, 400, d[0]), d[1]);
        c.due("the least is the first year's", x.doubt(0, 0, 120, 400, 15), 2);
        c.due("the least is the second year's", x.doubt(0, 0, 110, 400, 8), 2);
        c.due("the least is the last year's", x.doubt(0, 0, 0, 120, 16), 2);
    }

    private static void doubtOfLeastAndGreatestSlack() {
        c.promise(17, "a slack, 0 to 800");
        StarLists x = eightStars();
        for (int i = 0; i < 8; i++) x.line(0, 2700 * i, 2000);
        // 0 in the year 0, 64, 128 and 200 in the next three, 800 in all others
        c.due("slack 0", x.doubt(0, 0, 0, 400, 0), 1);
        c.due("slack 200", x.doubt(0, 0, 0, 400, 200), 4);
        c.due("slack 799", x.doubt(0, 0, 0, 400, 799), 4);
        c.due("slack 800", x.doubt(0, 0, 0, 400, 800), 41);
        c.promise(17, "OUTSIDE: slack");
        c.refused("slack", 0, 800, OUTSIDE, n -> x.doubt(0, 0, 0, 400, n));
        c.refused("slack, without LINES", 0, 800, OUTSIDE, n -> oneLine(0).doubt(1, 0, 0, 0, n));
    }

    private static void doubtNotBeyondTo() {
        c.promise(17, "10, 20, .. years more, not beyond to");
        StarLists x = oneLine(9000);
        c.due("to 0", x.doubt(0, 0, 0, 0, 0), 1);
        c.due("to 9", x.doubt(0, 0, 0, 9, 0), 1);
        c.due("to 10", x.doubt(0, 0, 0, 10, 0), 2);
        c.due("to 19", x.doubt(0, 0, 0, 19, 0), 2);
        c.due("to 20", x.doubt(0, 0, 0, 20, 0), 3);
        c.due("from -5 to 5", x.doubt(0, 0, -5, 5, 0), 2);
        c.due("from -5 to 4", x.doubt(0, 0, -5, 4, 0), 1);
    }

    private static void doubtOfMostYears() {
        c.promise(17, "OUTSIDE: as dated(), there are more than 41");
        StarLists x = oneLine(9000);
        c.due("to 399", x.doubt(0, 0, 0, 399, 0), 40);
        c.due("to 400", x.doubt(0, 0, 0, 400, 0), 41);
        c.due("to 409", x.doubt(0, 0, 0, 409, 0), 41);
        c.due("to 410", x.doubt(0, 0, 0, 410, 0), OUTSIDE);
        c.due("-3000 to -2600", x.doubt(0, 0, -3000, -2600, 0), 41);
        c.due("-3000 to -2590", x.doubt(0, 0, -3000, -2590, 0), OUTSIDE);
        c.due("2600 to 3000", x.doubt(0, 0, 2600, 3000, 0), 41);
        c.due("2590 to 3000", x.doubt(0, 0, 2590, 3000, 0), OUTSIDE);
    }

    private static void doubtUnderTheLimit() {
        c.promise(17, "STARS that are fainter than THE LIMIT count for nothing");
        StarLists x = oneLine(1100);
        c.due("limit 6, as faint", x.doubt(0, 0, 0, 400, 0), 1);
        x.limit(5);
        c.due("limit 5", x.doubt(0, 0, 0, 400, 0), 41);
    }

    private static void doubtRefused() {
        StarLists x = oneLine(1016);
        String before = Checks.stateOf(x);
        c.promise(17, "UNKNOWN");
        c.refused("LIST", 0, 1, UNKNOWN, n -> x.doubt(n, 0, 0, 0, 0));
        c.promise(17, "OUTSIDE: as dated(), shift");
        c.refused("shift", -600, 600, OUTSIDE, n -> x.doubt(0, n, 0, 0, 0));
        c.taken("shift", -600, 600, 1, n -> oneLine(2216).doubt(0, n, 0, 400, 0));
        c.due("shift 0, none matches", oneLine(2216).doubt(0, 0, 0, 400, 0), 41);
        c.promise(17, "OUTSIDE: as dated(), years");
        c.refused("from", -3000, 3000, OUTSIDE, n -> x.doubt(0, 0, n, Math.max(n, 0), 0));
        c.refused("to", -3000, 3000, OUTSIDE, n -> x.doubt(0, 0, Math.min(n, 0), n, 0));
        c.refused("both", -3000, 3000, OUTSIDE, n -> x.doubt(0, 0, n, n, 0));
        c.taken("both", -3000, 3000, 1, n -> x.doubt(0, 0, n, n, 0));
        c.due("from -3001 to -3000", x.doubt(0, 0, -3001, -3000, 0), OUTSIDE);
        c.due("from 3000 to 3001", x.doubt(0, 0, 3000, 3001, 0), OUTSIDE);
        c.promise(17, "OUTSIDE: as dated(), to is below from");
        c.due("from 1 to 0", x.doubt(0, 0, 1, 0, 0), OUTSIDE);
        c.due("from 3000 to -3000", x.doubt(0, 0, 3000, -3000, 0), OUTSIDE);
        c.promise(17, "UNKNOWN ahead of OUTSIDE");
        c.due("LIST 2, slack 801", x.doubt(2, 0, 0, 0, 801), UNKNOWN);
        c.due("LIST -1, shift -601", x.doubt(-1, -601, 0, 0, 0), UNKNOWN);
        c.promise(17, "what is refused changes nothing");
        c.unchanged(x, before);
    }

    private static void shiftOfNoSuchLine() {
        c.promise(18, "NONE: there is no such LINE");
        StarLists x = oneLine(9000);
        c.due("a LIST without LINES", x.shift(1, 0), NONE);
        c.due("a LINE that is left", x.shift(0, 0), NONE);
        x.mend(0, 0, 1600, 0);
        c.due("a LINE with a SLIP", x.shift(0, 0), NONE);
        x.mend(0, 0, 1031, 0);
        c.due("d of 31", x.shift(0, 0), NONE);
        x.mend(0, 0, 1030, 0);
        c.due("d of 30", x.shift(0, 0), 60);
        StarLists y = new StarLists();
        y.list();
        y.line(0, 0, 0);
        c.due("there are no STARS", y.shift(0, 0), NONE);
    }

    private static void shiftLeastAndGreatest() {
        c.promise(18, "THE SHIFT, and 30 more, from 0 to 60");
        for (int d = -30; d <= 30; d += 10) c.due("d of " + d, oneLine(1000 + d).shift(0, 0), d + 30);
        StarLists x = new StarLists();
        x.star(21590, 0, 0, 0);
        x.list();
        x.line(0, 10, 0);
        c.due("d round 21600", x.shift(0, 0), 50);
    }

    private static void shiftOfOneToEight() {
        c.promise(18, "in order, the least first, that of number (how many less 1) by 2, cut");
        StarLists x = eightStars();
        int[] d = {7, -3, 5, -1, 30, -30, 5, 0};
        int[] due = {7, -3, 5, -1, 5, -1, 5, 0};
        for (int i = 0; i < 8; i++) {
            x.line(0, Math.floorMod(2700 * i + d[i], 21600), 2000);
            c.due("of " + (i + 1), x.shift(0, 0), due[i] + 30);
        }
    }

    private static void shiftInYears() {
        c.promise(18, "in a YEAR, -3000 to 3000: the last ones are taken");
        c.due("in 3000", oneLine(3510).shift(0, 3000), 40);
        c.due("in -3000", oneLine(21600 - 1500 - 10).shift(0, -3000), 20);
    }

    private static void shiftUnderTheLimit() {
        c.promise(18, "STARS that are fainter than THE LIMIT count for nothing");
        StarLists x = bright();
        int[][] due = {{6, 30}, {4, 30}, {3, 20}, {2, 10}};
        for (int[] d : due) {
            x.limit(d[0]);
            c.due("limit " + d[0], x.shift(0, 0), d[1]);
        }
        StarLists y = oneLine(1000);
        y.limit(5);
        c.due("all are", y.shift(0, 0), NONE);
    }

    private static void shiftRefused() {
        StarLists x = oneLine(1016);
        String before = Checks.stateOf(x);
        c.promise(18, "UNKNOWN");
        c.refused("LIST", 0, 1, UNKNOWN, n -> x.shift(n, 0));
        c.promise(18, "OUTSIDE");
        c.refused("year", -3000, 3000, OUTSIDE, n -> x.shift(0, n));
        c.refused("year, without LINES", -3000, 3000, OUTSIDE, n -> x.shift(1, n));
        c.promise(18, "UNKNOWN ahead of OUTSIDE");
        c.due("LIST 2, year 3001", x.shift(2, 3001), UNKNOWN);
        c.due("LIST -1, year -3001", x.shift(-1, -3001), UNKNOWN);
        c.promise(18, "what is refused changes nothing");
        c.unchanged(x, before);
    }
}
