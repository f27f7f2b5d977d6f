/** Promises 19 to 23 at their edges, a test for each sentence that names one. */
public final class CopiesEdgesTest {
    private static final int MIN = Checks.MIN, MAX = Checks.MAX;
    private static final int UNKNOWN = Checks.UNKNOWN, OUTSIDE = Checks.OUTSIDE, NONE = Checks.NONE;
    private static final Checks c = new Checks();

    public static void main(String[] args) {
        faultOfNoLines();
        faultOfAStarNotInIt();
        faultOfADearPair();
        faultUnderTheLimit();
        faultInYearsAndShifts();
        faultRefused();
        shareOfNoFaults();
        shareOfUnlikeFaults();
        shareOfAll();
        shareUnderTheLimit();
        shareInYearsAndShifts();
        shareRefused();
        apartOfNoFaults();
        apartOfUnlikeFaults();
        apartOfAll();
        apartUnderTheLimit();
        apartRefused();
        treeOfFewLists();
        treeOfLikeLists();
        treeOfMostFaults();
        treeUnderTheLimit();
        treeInYearsAndShifts();
        treeRefused();
        rowOfFewLists();
        rowPastTheLast();
        rowBelowNought();
        rowsOfLikeOnes();
        rowOfSecondAheadOfFirst();
        rowOfListsThatHangTogether();
        rowUnderTheLimit();
        rowInYearsAndShifts();
        rowRefused();
        listBesideItself();
        mendedLists();
        c.end("CopiesEdgesTest", 19, 20, 21, 22, 23);
    }

    /** Eight STARS one house and a half from one another, all of WIDE 2000; star i is of LIGHT i, 6 at most. */
    private static StarLists eightStars() {
        StarLists x = new StarLists();
        for (int i = 0; i < 8; i++) x.star(2700 * i, 2000, 0, Math.min(i, 6));
        return x;
    }

    /** A LIST with a LINE for each sign: that STAR without slip (0), with slip 1, 2, 3, or none (a dot). */
    private static void write(StarLists x, String slips) {
        int list = x.list();
        for (int i = 0; i < slips.length(); i++) {
            int at = 2700 * i;
            switch (slips.charAt(i)) {
                case '0': x.line(list, at, 2000); break;
                case '1': x.line(list, at, -2000); break;
                case '2': x.line(list, at + 1800, 2000); break;
                case '3': x.line(list, at, 2600); break;
                default: break;
            }
        }
    }

    private static StarLists lists(String... all) {
        StarLists x = eightStars();
        for (String slips : all) write(x, slips);
        return x;
    }

    private static void rows(StarLists x, int... due) {
        for (int i = 0; i < due.length; i++) c.due("row(" + i + ", 0, 0)", x.row(i, 0, 0), due[i]);
        c.due("row(" + due.length + ", 0, 0)", x.row(due.length, 0, 0), NONE);
    }

    private static void faultOfNoLines() {
        c.promise(19, "else 0: a LIST without LINES");
        StarLists x = lists("");
        for (int i = 0; i < 8; i++) c.due("STAR " + i, x.fault(0, i, 0, 0), 0);
    }

    private static void faultOfAStarNotInIt() {
        c.promise(19, "if it is in it and that is not 0; else 0");
        StarLists x = lists("12301.23");
        int[] due = {1, 2, 3, 0, 1, 0, 2, 3};
        for (int i = 0; i < 8; i++) c.due("STAR " + i, x.fault(0, i, 0, 0), due[i]);
        StarLists y = lists("1");
        y.line(0, 0, 2000);
        c.due("its LINE without slip has it, of two", y.fault(0, 0, 0, 0), 0);
        y.line(0, 9000, 0);
        c.due("a STAR of no LINE, behind a LINE that is left", y.fault(0, 1, 0, 0), 0);
    }

    private static void faultOfADearPair() {
        c.promise(19, "its SLIP in THE BEST MATCH: a pair of 100, of 101");
        StarLists x = eightStars();
        x.list();
        x.line(0, 1830, 2020);
        c.due("100", x.fault(0, 0, 0, 0), 2);
        x.mend(0, 0, 1830, 2021);
        c.due("101", x.fault(0, 0, 0, 0), 0);
    }

    private static void faultUnderTheLimit() {
        c.promise(19, "STARS that are fainter than THE LIMIT count for nothing");
        StarLists x = lists("11111111");
        for (int limit = 0; limit <= 6; limit++) {
            x.limit(limit);
            for (int i = 0; i < 8; i++) {
                c.due("STAR " + i + ", limit " + limit, x.fault(0, i, 0, 0), Math.min(i, 6) <= limit ? 1 : 0);
            }
        }
    }

    /** In 3000 the stars have turned by 2500, in -3000 back by as much; with the shift they are 3100 off. */
    private static StarLists farYears() {
        StarLists x = new StarLists();
        x.star(0, 2000, 0, 0);
        x.star(10000, 2000, 0, 0);
        for (int i = 0; i < 3; i++) x.list();
        x.line(0, 3100, -2000);
        x.line(0, 13100, -2000);
        x.line(1, 3100, -2000);
        x.line(2, 21600 - 3100, 1400);
        return x;
    }

    private static void faultInYearsAndShifts() {
        c.promise(19, "in a YEAR, -3000 to 3000, with a SHIFT, -600 to 600: the last ones are taken");
        StarLists x = farYears();
        c.due("3000, 600", x.fault(0, 0, 3000, 600), 1);
        c.due("3000, 0", x.fault(0, 0, 3000, 0), 0);
        c.due("-3000, -600", x.fault(2, 0, -3000, -600), 3);
        c.due("-3000, 600", x.fault(2, 0, -3000, 600), 0);
    }

    private static void faultRefused() {
        StarLists x = lists("1", "");
        String before = Checks.stateOf(x);
        c.promise(19, "UNKNOWN: list, star");
        c.refused("LIST", 0, 1, UNKNOWN, n -> x.fault(n, 0, 0, 0));
        c.refused("STAR", 0, 7, UNKNOWN, n -> x.fault(0, n, 0, 0));
        c.promise(19, "OUTSIDE");
        c.refused("year", -3000, 3000, OUTSIDE, n -> x.fault(0, 0, n, 0));
        c.refused("shift", -600, 600, OUTSIDE, n -> x.fault(0, 0, 0, n));
        c.promise(19, "UNKNOWN ahead of OUTSIDE");
        c.due("LIST 2, year 3001", x.fault(2, 0, 3001, 0), UNKNOWN);
        c.due("STAR 8, shift -601", x.fault(0, 8, 0, -601), UNKNOWN);
        c.promise(19, "what is refused changes nothing");
        c.unchanged(x, before);
    }

    private static void shareOfNoFaults() {
        c.promise(20, "one FAULT, not 0, in both: none has one");
        StarLists x = lists("", "", "00000000", "00000000");
        c.due("two LISTS without LINES", x.share(0, 1, 0, 0), 0);
        c.due("one without LINES", x.share(0, 2, 0, 0), 0);
        c.due("two without faults", x.share(2, 3, 0, 0), 0);
        StarLists y = new StarLists();
        y.list();
        y.list();
        c.due("there are no STARS", y.share(0, 1, 0, 0), 0);
    }

    private static void shareOfUnlikeFaults() {
        c.promise(20, "one FAULT, not 0, in both: unlike ones");
        StarLists x = lists("12312312", "23123123", "11111111", "000");
        c.due("no like ones", x.share(0, 1, 0, 0), 0);
        c.due("three", x.share(0, 2, 0, 0), 3);
        c.due("two", x.share(1, 2, 0, 0), 2);
        c.due("0 in one of both", x.share(0, 3, 0, 0), 0);
    }

    private static void shareOfAll() {
        c.promise(20, "how many STARS: eight");
        StarLists x = lists("12312312", "12312312", "12312310");
        c.due("share(0, 1)", x.share(0, 1, 0, 0), 8);
        c.due("share(1, 0)", x.share(1, 0, 0, 0), 8);
        c.due("share(0, 2), seven", x.share(0, 2, 0, 0), 7);
        c.due("share(2, 1), seven", x.share(2, 1, 0, 0), 7);
        c.due("share(0, 0), a LIST and itself", x.share(0, 0, 0, 0), 8);
    }

    private static void shareUnderTheLimit() {
        c.promise(20, "STARS that are fainter than THE LIMIT count for nothing");
        StarLists x = lists("33333333", "33333333");
        int[] due = {1, 2, 3, 4, 5, 6, 8};
        for (int limit = 0; limit <= 6; limit++) {
            x.limit(limit);
            c.due("limit " + limit, x.share(0, 1, 0, 0), due[limit]);
        }
    }

    private static void shareInYearsAndShifts() {
        StarLists x = farYears();
        c.promise(20, "a YEAR, -3000 to 3000, a SHIFT, -600 to 600: the last ones are taken");
        c.due("share in 3000 with 600", x.share(0, 1, 3000, 600), 1);
        c.due("share in 3000 with -600", x.share(0, 1, 3000, -600), 0);
        c.due("share in -3000 with -600", x.share(0, 2, -3000, -600), 0);
        c.promise(21, "a YEAR, -3000 to 3000, a SHIFT, -600 to 600: the last ones are taken");
        c.due("apart in 3000 with 600", x.apart(0, 1, 3000, 600), 1);
        c.due("apart in 3000 with -600", x.apart(0, 1, 3000, -600), 0);
        c.due("apart in -3000 with -600", x.apart(0, 2, -3000, -600), 1);
    }

    private static void shareRefused() {
        StarLists x = lists("1", "1");
        String before = Checks.stateOf(x);
        c.promise(20, "UNKNOWN");
        c.refused("the first LIST", 0, 1, UNKNOWN, n -> x.share(n, 1, 0, 0));
        c.refused("the second LIST", 0, 1, UNKNOWN, n -> x.share(0, n, 0, 0));
        c.promise(20, "OUTSIDE");
        c.refused("year", -3000, 3000, OUTSIDE, n -> x.share(0, 1, n, 0));
        c.refused("shift", -600, 600, OUTSIDE, n -> x.share(0, 1, 0, n));
        c.promise(20, "UNKNOWN ahead of OUTSIDE");
        c.due("the first LIST, year 3001", x.share(2, 0, 3001, 0), UNKNOWN);
        c.due("the second LIST, shift 601", x.share(0, -1, 0, 601), UNKNOWN);
        c.promise(20, "what is refused changes nothing");
        c.unchanged(x, before);
    }

    private static void apartOfNoFaults() {
        c.promise(21, "each STAR whose FAULTS in both are unlike: none has one");
        StarLists x = lists("", "", "00000000");
        c.due("two LISTS without LINES", x.apart(0, 1, 0, 0), 0);
        c.due("without LINES and without faults", x.apart(0, 2, 0, 0), 0);
        StarLists y = new StarLists();
        y.list();
        y.list();
        c.due("there are no STARS", y.apart(0, 1, 0, 0), 0);
    }

    private static void apartOfUnlikeFaults() {
        c.promise(21, "each STAR whose FAULTS in both are unlike");
        StarLists x = lists("10", "20", "30", "00", ".0");
        for (int a = 0; a < 5; a++) {
            for (int b = 0; b < 5; b++) {
                int due = a == b || a >= 3 && b >= 3 ? 0 : 1;
                c.due("apart(" + a + ", " + b + ")", x.apart(a, b, 0, 0), due);
            }
        }
    }

    private static void apartOfAll() {
        c.promise(21, "by how many STARS: eight");
        StarLists x = lists("12312312", "23123123", "", "12312313");
        c.due("apart(0, 1)", x.apart(0, 1, 0, 0), 8);
        c.due("apart(1, 0)", x.apart(1, 0, 0, 0), 8);
        c.due("apart(0, 2), one without LINES", x.apart(0, 2, 0, 0), 8);
        c.due("apart(0, 3), the last STAR alone", x.apart(0, 3, 0, 0), 1);
        c.due("apart(0, 0), a LIST and itself", x.apart(0, 0, 0, 0), 0);
    }

    private static void apartUnderTheLimit() {
        c.promise(21, "STARS that are fainter than THE LIMIT count for nothing");
        StarLists x = lists("33333333", "22222222");
        int[] due = {1, 2, 3, 4, 5, 6, 8};
        for (int limit = 0; limit <= 6; limit++) {
            x.limit(limit);
            c.due("limit " + limit, x.apart(0, 1, 0, 0), due[limit]);
        }
    }

    private static void apartRefused() {
        StarLists x = lists("1", "2");
        String before = Checks.stateOf(x);
        c.promise(21, "UNKNOWN");
        c.refused("the first LIST", 0, 1, UNKNOWN, n -> x.apart(n, 1, 0, 0));
        c.refused("the second LIST", 0, 1, UNKNOWN, n -> x.apart(0, n, 0, 0));
        c.promise(21, "OUTSIDE");
        c.refused("year", -3000, 3000, OUTSIDE, n -> x.apart(0, 1, n, 0));
        c.refused("shift", -600, 600, OUTSIDE, n -> x.apart(0, 1, 0, n));
        c.promise(21, "UNKNOWN ahead of OUTSIDE");
        c.due("the first LIST, year -3001", x.apart(-1, 0, -3001, 0), UNKNOWN);
        c.due("the second LIST, shift -601", x.apart(0, 2, 0, -601), UNKNOWN);
        c.promise(21, "what is refused changes nothing");
        c.unchanged(x, before);
    }

    private static void treeOfFewLists() {
        c.promise(22, "0: fewer than two LISTS");
        c.due("a new object", new StarLists().tree(0, 0), 0);
        c.due("no LIST, eight STARS", lists().tree(0, 0), 0);
        c.due("one LIST", lists("12312312").tree(0, 0), 0);
        c.promise(22, "how many faults THE TREE needs: two LISTS");
        c.due("two LISTS, apart by eight", lists("12312312", "").tree(0, 0), 8);
        c.due("two LISTS, apart by one", lists("12312312", "12312310").tree(0, 0), 1);
    }

    private static void treeOfLikeLists() {
        c.promise(22, "how many faults THE TREE needs: none");
        c.due("six like LISTS", lists("123", "123", "123", "123", "123", "123").tree(0, 0), 0);
        c.due("six LISTS without LINES", lists("", "", "", "", "", "").tree(0, 0), 0);
    }

    private static void treeOfMostFaults() {
        c.promise(22, "how many faults THE TREE needs: six LISTS, far apart");
        StarLists x = lists("11111111", "22222222", "33333333", "00000000", "11223300", "22331100");
        // the last two are apart from each other by six, from each of the others by six too
        c.due("apart(4, 5)", x.apart(4, 5, 0, 0), 6);
        c.due("tree", x.tree(0, 0), 5 * 6);
        c.promise(23, "as they came: six LISTS, far apart");
        rows(x, 4, 5, 14, 24, 34);
    }

    private static void treeUnderTheLimit() {
        c.promise(22, "STARS that are fainter than THE LIMIT count for nothing");
        StarLists x = lists("33333333", "22222222");
        int[] due = {1, 2, 3, 4, 5, 6, 8};
        for (int limit = 0; limit <= 6; limit++) {
            x.limit(limit);
            c.due("limit " + limit, x.tree(0, 0), due[limit]);
        }
    }

    private static void treeInYearsAndShifts() {
        c.promise(22, "a YEAR, -3000 to 3000, a SHIFT, -600 to 600: the last ones are taken");
        StarLists x = farYears();
        c.due("tree in 3000 with 600", x.tree(3000, 600), 1 + 1);
        c.due("tree in 3000 with -600", x.tree(3000, -600), 0);
        c.due("tree in -3000 with -600", x.tree(-3000, -600), 1);
        c.due("tree in -3000 with 600", x.tree(-3000, 600), 0);
    }

    private static void treeRefused() {
        StarLists x = lists("1", "2", "12");
        String before = Checks.stateOf(x);
        c.promise(22, "OUTSIDE");
        c.refused("year", -3000, 3000, OUTSIDE, n -> x.tree(n, 0));
        c.refused("shift", -600, 600, OUTSIDE, n -> x.tree(0, n));
        c.due("year 3001 without LISTS", new StarLists().tree(3001, 0), OUTSIDE);
        c.due("shift -601 without LISTS", new StarLists().tree(0, -601), OUTSIDE);
        c.promise(22, "what is refused changes nothing");
        c.unchanged(x, before);
    }

    private static void rowOfFewLists() {
        c.promise(23, "NONE: there are not so many: fewer than two LISTS");
        rows(new StarLists());
        rows(lists());
        rows(lists("12312312"));
        c.promise(23, "row i of THE TREE: two LISTS");
        rows(lists("12312312", ""), 1);
    }

    private static void rowPastTheLast() {
        c.promise(23, "NONE: there are not so many");
        StarLists x = lists("1", "2", "3", "0", "1", "2");
        c.due("the last of five", x.row(4, 0, 0) == NONE ? 1 : 0, 0);
        for (int i : new int[] {5, 6, 7, 8, 48, 255, 256, MAX - 1, MAX}) {
            c.due("row " + i, x.row(i, 0, 0), NONE);
        }
    }

    private static void rowBelowNought() {
        c.promise(23, "NONE: there are not so many, below 0 too");
        StarLists x = lists("1", "2", "3", "0", "1", "2");
        for (int i : new int[] {-1, -2, -5, -6, MIN + 1, MIN}) c.due("row " + i, x.row(i, 0, 0), NONE);
        c.due("row -1 without LISTS", new StarLists().row(-1, 0, 0), NONE);
    }

    private static void rowsOfLikeOnes() {
        c.promise(23, "of like ones the least number of the first, then of the second");
        rows(lists("1", "1", "1", "1", "1", "1"), 1, 2, 3, 4, 5);
        rows(lists("1", "2", "3", "0"), 1, 2, 3);
    }

    private static void rowOfSecondAheadOfFirst() {
        c.promise(23, "those that are least APART, ahead of the least number");
        rows(lists("111", "122", "123", "311"), 3, 12, 1);
        rows(lists("1111", "0000", "1110", "0020"), 2, 13, 12);
    }

    private static void rowOfListsThatHangTogether() {
        c.promise(23, "of two LISTS that do not hang together yet");
        StarLists x = lists("1111", "1110", "1100", "22", "22", "1000");
        // apart 0: 34; 1: 01, 12, 25; 2: 02, 15, 23, 35
        rows(x, 34, 1, 12, 25, 23);
        c.promise(22, "rows by which all LISTS hang together, one less than there are LISTS");
        c.due("tree", x.tree(0, 0), 0 + 1 + 1 + 1 + 2);
    }

    private static void rowUnderTheLimit() {
        c.promise(23, "STARS that are fainter than THE LIMIT count for nothing");
        StarLists x = lists("11000000", "00000000", "11100000");
        rows(x, 2, 1);
        x.limit(1);
        rows(x, 2, 1);
        x.mend(2, 1, 2700, 2000);
        rows(x, 2, 12);
        x.limit(0);
        rows(x, 2, 1);
    }

    private static void rowInYearsAndShifts() {
        c.promise(23, "a YEAR, -3000 to 3000, a SHIFT, -600 to 600: the last ones are taken");
        StarLists x = farYears();
        c.due("row 1 in -3000 with -600", x.row(1, -3000, -600), 2);
        c.due("row 0 in 3000 with 600", x.row(0, 3000, 600), 1);
        c.due("row 1 in 3000 with 600", x.row(1, 3000, 600), 12);
        c.due("row 1 in 3000 with -600", x.row(1, 3000, -600), 2);
    }

    private static void rowRefused() {
        StarLists x = lists("1", "2", "12");
        String before = Checks.stateOf(x);
        c.promise(23, "OUTSIDE");
        c.refused("year", -3000, 3000, OUTSIDE, n -> x.row(0, n, 0));
        c.refused("shift", -600, 600, OUTSIDE, n -> x.row(0, 0, n));
        c.due("year 3001 without LISTS", new StarLists().row(0, 3001, 0), OUTSIDE);
        c.promise(23, "OUTSIDE ahead of NONE");
        for (int i : new int[] {-1, 2, MIN, MAX}) {
            c.due("row " + i + ", year 3001", x.row(i, 3001, 0), OUTSIDE);
            c.due("row " + i + ", shift -601", x.row(i, 0, -601), OUTSIDE);
        }
        c.promise(23, "what is refused changes nothing");
        c.unchanged(x, before);
    }

    /** Of share and apart the document names UNKNOWN and OUTSIDE alone as refusals, so this is none. */
    private static void listBesideItself() {
        StarLists x = lists("12301230", "00000000", "");
        int[] faults = {6, 0, 0};
        for (int list = 0; list < 3; list++) {
            int asked = list;
            c.promise(20, "one FAULT, not 0, in both: a LIST beside itself");
            c.due("share of LIST " + list, x.share(list, list, 0, 0), faults[list]);
            c.refused("share, year", -3000, 3000, OUTSIDE, n -> x.share(asked, asked, n, 0));
            c.refused("share, shift", -600, 600, OUTSIDE, n -> x.share(asked, asked, 0, n));
            c.promise(21, "each STAR whose FAULTS in both are unlike: a LIST beside itself");
            c.due("apart of LIST " + list, x.apart(list, list, 0, 0), 0);
            c.refused("apart, year", -3000, 3000, OUTSIDE, n -> x.apart(asked, asked, n, 0));
            c.refused("apart, shift", -600, 600, OUTSIDE, n -> x.apart(asked, asked, 0, n));
        }
        c.promise(20, "UNKNOWN: a LIST beside itself");
        c.refused("share", 0, 2, UNKNOWN, n -> x.share(n, n, 0, 0));
        c.promise(21, "UNKNOWN: a LIST beside itself");
        c.refused("apart", 0, 2, UNKNOWN, n -> x.apart(n, n, 0, 0));
    }

    /** A LINE that was asked about before is mended: nothing of the earlier answer may be left. */
    private static void mendedLists() {
        for (int list = 0; list < 2; list++) {
            StarLists x = lists("1", "1");
            c.promise(20, "what was answered before does not count");
            c.due("share", x.share(0, 1, 0, 0), 1);
            x.mend(list, 0, 0, 2000);
            c.due("share, LIST " + list + " mended", x.share(0, 1, 0, 0), 0);
            c.promise(21, "what was answered before does not count");
            c.due("apart, LIST " + list + " mended", x.apart(0, 1, 0, 0), 1);
            x.mend(list, 0, 0, -2000);
            c.due("apart, LIST " + list + " as it was", x.apart(0, 1, 0, 0), 0);
            x.mend(list, 0, 0, 2000);
            c.promise(22, "what was answered before does not count");
            c.due("tree, LIST " + list + " mended", x.tree(0, 0), 1);
            x.mend(list, 0, 1800, 2000);
            c.promise(19, "what was answered before does not count");
            c.due("fault, LIST " + list + " mended", x.fault(list, 0, 0, 0), 2);
        }
        c.promise(23, "what was answered before does not count");
        StarLists y = lists("1", "2", "2");
        c.due("row 0", y.row(0, 0, 0), 12);
        y.mend(1, 0, 0, -2000);
        c.due("row 0, LIST 1 mended", y.row(0, 0, 0), 1);
        c.due("row 0, nothing matches", y.row(0, 1000, 0), 1);
        c.due("row 1, nothing matches", y.row(1, 1000, 0), 2);
    }
}
