/** Promises 19 to 23 with ordinary inputs: fault, share, apart, tree, row. */
public final class CopiesTest {
    private static final Checks c = new Checks();

    public static void main(String[] args) {
        fault();
        faultUnderLimit();
        shareAndApart();
        tree();
        treeOfLikeLists();
        treeJoinsGroups();
        apartByAllStars();
        c.end("CopiesTest");
    }

    /** Four stars far from one another. */
    private static StarLists fourStars() {
        StarLists x = new StarLists();
        for (int i = 0; i < 4; i++) x.star(1000 + 5000 * i, 2000, 0, i);
        return x;
    }

    /** A list with a line for each star and this slip; 9 leaves the star out, -1 writes it off by 7. */
    private static void write(StarLists x, int... slips) {
        int list = x.list();
        for (int i = 0; i < slips.length; i++) {
            int at = 1000 + 5000 * i;
            switch (slips[i]) {
                case -1: x.line(list, at + 4, 2003); break;
                case 0: x.line(list, at, 2000); break;
                case 1: x.line(list, at, -2000); break;
                case 2: x.line(list, at + 1800, 2000); break;
                case 3: x.line(list, at, 1400); break;
                default: break;
            }
        }
    }

    private static void fault() {
        StarLists x = fourStars();
        write(x, 3, 2, 1, 0);
        write(x, 9, 9, 9, -1);
        c.due("fault(0, 0)", x.fault(0, 0, 0, 0), 3);
        c.due("fault(0, 1)", x.fault(0, 1, 0, 0), 2);
        c.due("fault(0, 2)", x.fault(0, 2, 0, 0), 1);
        c.due("fault(0, 3)", x.fault(0, 3, 0, 0), 0);
        c.due("a star that is left", x.fault(1, 0, 0, 0), 0);
        c.due("a star without slip", x.fault(1, 3, 0, 0), 0);
        c.due("in 720, turned by 600", x.fault(0, 3, 720, 0), 3);
        c.due("in 720, with shift -600", x.fault(0, 3, 720, -600), 0);
        c.due("with shift 600", x.fault(0, 3, 0, 600), 3);
        c.due("in 36, turned by 30", x.fault(0, 1, 36, 0), 2);
        c.due("in 38, turned by 31", x.fault(0, 1, 38, 0), 0);
        StarLists y = fourStars();
        y.list();
        y.line(0, 1000, -2000);
        y.line(0, 1000, 2000);
        c.due("the match is asked, not the slip", y.fault(0, 0, 0, 0), 0);
    }

    private static void faultUnderLimit() {
        StarLists x = fourStars();
        write(x, 3, 2, 1, 1);
        write(x, 3, 2, 1, 0);
        x.limit(2);
        c.due("as faint as the limit", x.fault(0, 2, 0, 0), 1);
        c.due("fainter", x.fault(0, 3, 0, 0), 0);
        c.due("shared under the limit", x.share(0, 1, 0, 0), 3);
        c.due("apart under the limit", x.apart(0, 1, 0, 0), 0);
        c.due("tree under the limit", x.tree(0, 0), 0);
        x.limit(0);
        c.due("one shared", x.share(0, 1, 0, 0), 1);
        x.limit(6);
        c.due("apart without limit", x.apart(0, 1, 0, 0), 1);
        c.due("tree without limit", x.tree(0, 0), 1);
    }

    private static void shareAndApart() {
        StarLists x = fourStars();
        write(x, 1, 2, 3, 0);
        write(x, 1, 3, 3, 9);
        write(x, 0, 0, 0, 1);
        c.due("share(0, 1)", x.share(0, 1, 0, 0), 2);
        c.due("share(1, 0)", x.share(1, 0, 0, 0), 2);
        c.due("apart(0, 1)", x.apart(0, 1, 0, 0), 1);
        c.due("apart(1, 0)", x.apart(1, 0, 0, 0), 1);
        c.due("share(0, 2)", x.share(0, 2, 0, 0), 0);
        c.due("apart(0, 2)", x.apart(0, 2, 0, 0), 4);
        c.due("a list shares its faults with itself", x.share(0, 0, 0, 0), 3);
        c.due("no fault is shared", x.share(2, 2, 0, 0), 1);
        c.due("a list is not apart from itself", x.apart(0, 0, 0, 0), 0);
        c.due("share in another year", x.share(0, 1, 1000, 0), 0);
        c.due("apart in another year", x.apart(0, 2, 1000, 0), 0);
        c.due("share with that year's shift", x.share(0, 1, 120, -100), 2);
        c.due("apart with that year's shift", x.apart(0, 2, 120, -100), 4);
    }

    private static void row(StarLists x, int i, int want) {
        c.due("row(" + i + ", 0, 0)", x.row(i, 0, 0), want);
    }

    private static void tree() {
        StarLists x = fourStars();
        write(x, 1, 1, 1, 1);
        write(x, 0, 0, 0, 0);
        write(x, 1, 1, 1, 0);
        write(x, 0, 0, 2, 0);
        // apart: 01 4, 02 1, 03 4, 12 3, 13 1, 23 3
        c.due("apart(0, 2)", x.apart(0, 2, 0, 0), 1);
        c.due("apart(1, 3)", x.apart(1, 3, 0, 0), 1);
        c.due("apart(1, 2)", x.apart(1, 2, 0, 0), 3);
        c.due("apart(2, 3)", x.apart(2, 3, 0, 0), 3);
        c.due("tree(0, 0)", x.tree(0, 0), 1 + 1 + 3);
        row(x, 0, 2);
        row(x, 1, 13);
        row(x, 2, 12);
        row(x, 3, Checks.NONE);
        c.due("a year in which nothing matches", x.tree(1000, 0), 0);
        c.due("its first row", x.row(0, 1000, 0), 1);
        c.due("its second row", x.row(1, 1000, 0), 2);
        c.due("its third row", x.row(2, 1000, 0), 3);
        c.due("the tree with that year's shift", x.tree(120, -100), 5);
        c.due("its row", x.row(1, 120, -100), 13);
    }

    private static void treeOfLikeLists() {
        StarLists x = fourStars();
        for (int i = 0; i < 6; i++) write(x, 1, 2, 3, 0);
        c.due("like lists need none", x.tree(0, 0), 0);
        for (int i = 0; i < 5; i++) row(x, i, i + 1);
        row(x, 5, Checks.NONE);
        StarLists y = fourStars();
        write(y, 1, 0, 0, 0);
        write(y, 0, 1, 0, 0);
        write(y, 0, 0, 1, 0);
        write(y, 0, 0, 0, 0);
        c.due("three copies of the last", y.tree(0, 0), 3);
        row(y, 0, 3);
        row(y, 1, 13);
        row(y, 2, 23);
    }

    private static void treeJoinsGroups() {
        StarLists x = fourStars();
        write(x, 1, 1, 0, 0);
        write(x, 2, 2, 2, 2);
        write(x, 2, 2, 2, 0);
        write(x, 1, 0, 0, 0);
        write(x, 2, 2, 3, 3);
        write(x, 1, 1, 3, 0);
        // apart 1: 03 05 12; 2: 14 24 35; 3: 02 23 25 45 15
        c.due("tree of six", x.tree(0, 0), 1 + 1 + 1 + 2 + 3);
        row(x, 0, 3);
        row(x, 1, 5);
        row(x, 2, 12);
        row(x, 3, 14);
        row(x, 4, 2);
        row(x, 5, Checks.NONE);
    }

    private static void apartByAllStars() {
        StarLists x = new StarLists();
        x.list();
        x.list();
        for (int i = 0; i < 8; i++) {
            x.star(1000 + 2500 * i, 2000, 0, 0);
            x.line(0, 1000 + 2500 * i, -2000);
            x.line(1, 1000 + 2500 * i, 1400);
        }
        c.due("apart by eight", x.apart(0, 1, 0, 0), 8);
        c.due("shared by none", x.share(0, 1, 0, 0), 0);
        c.due("a tree of eight faults", x.tree(0, 0), 8);
        row(x, 0, 1);
        row(x, 1, Checks.NONE);
    }
}
