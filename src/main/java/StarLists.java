import java.util.Arrays;

/** Old star lists: the sky turned back, lists matched to it, dated, and set out as copies of one another. */
public final class StarLists {
    public static final int UNKNOWN = -1, OUTSIDE = -2, FULL = -4, NONE = -9;

    private static final int CIRCLE = 21600, HALF_CIRCLE = 10800, POLE = 5400;
    private static final int MOST_STARS = 8, MOST_LISTS = 6, MOST_LINES = 8;
    private static final int MOST_MOTION = 50, FAINTEST = 6;
    private static final int LAST_YEAR = 3000, MOST_SHIFT = 600;
    private static final int YEAR_STEP = 10, MOST_YEARS = 41, MOST_SLACK = 800;
    private static final int LEAST_PART = 2, MOST_PART = 1800;

    private final Stars stars;
    private final Rolls rolls;
    private final Pairing pairing;
    private final Copies copies;
    private final int[] yearCosts;

    public StarLists() {
        stars = new Stars();
        rolls = new Rolls();
        pairing = new Pairing(stars, rolls);
        copies = new Copies(stars, rolls, pairing);
        yearCosts = new int[MOST_YEARS];
    }

    // ---- the sky

    public int star(int long0, int wide, int motion, int light) {
        if (!isPlace(long0, wide)) return OUTSIDE;
        if (!isWithin(motion, -MOST_MOTION, MOST_MOTION)) return OUTSIDE;
        if (!isWithin(light, 0, FAINTEST)) return OUTSIDE;
        if (stars.size >= MOST_STARS) return FULL;
        return stars.add(long0, wide, motion, light);
    }

    public int sky(int star, int year) {
        if (!stars.has(star)) return UNKNOWN;
        if (!isYear(year)) return OUTSIDE;
        return stars.longIn(star, year);
    }

    public int about(int star, int what) {
        if (!stars.has(star)) return UNKNOWN;
        switch (what) {
            case 0: return stars.longs[star];
            case 1: return stars.motions[star];
            case 2: return stars.lights[star];
            case 3: return stars.wides[star] + POLE;
            default: return OUTSIDE;
        }
    }

    public int limit(int n) {
        if (!isWithin(n, 0, FAINTEST)) return OUTSIDE;
        int before = stars.faintest;
        stars.faintest = n;
        return before;
    }

    public int way(int from, int to) {
        if (!isLong(from) || !isLong(to)) return OUTSIDE;
        return leads(from, to) + HALF_CIRCLE;
    }

    // ---- lists

    public int list() {
        if (rolls.size >= MOST_LISTS) return FULL;
        return rolls.open();
    }

    public int line(int list, int long0, int wide) {
        if (!rolls.has(list)) return UNKNOWN;
        if (!isPlace(long0, wide)) return OUTSIDE;
        if (rolls.lines[list] >= MOST_LINES) return FULL;
        return rolls.add(list, long0, wide);
    }

    public int written(int list, int line, int what) {
        if (!rolls.hasLine(list, line)) return UNKNOWN;
        switch (what) {
            case 0: return rolls.longOf(list, line);
            case 1: return rolls.wideOf(list, line) + POLE;
            default: return OUTSIDE;
        }
    }

    public int mend(int list, int line, int long0, int wide) {
        if (!rolls.hasLine(list, line)) return UNKNOWN;
        if (!isPlace(long0, wide)) return OUTSIDE;
        int before = rolls.longOf(list, line);
        rolls.write(list, line, long0, wide);
        return before;
    }

    public int round(int list, int part) {
        if (!rolls.has(list)) return UNKNOWN;
        if (!isWithin(part, LEAST_PART, MOST_PART)) return OUTSIDE;
        int whole = 0;
        for (int line = 0; line < rolls.lines[list]; line++) {
            if (rolls.longOf(list, line) % part == 0) whole++;
        }
        return whole;
    }

    // ---- matches

    public int slip(int list, int line, int star, int year, int shift) {
        if (!rolls.hasLine(list, line) || !stars.has(star)) return UNKNOWN;
        if (!isMoment(year, shift)) return OUTSIDE;
        int rank = pairing.rankOf(list, line, star, year, shift);
        return rank == Slips.NO_RANK ? NONE : Slips.kindOf(rank);
    }

    public int cost(int list, int line, int star, int year, int shift) {
        if (!rolls.hasLine(list, line) || !stars.has(star)) return UNKNOWN;
        if (!isMoment(year, shift)) return OUTSIDE;
        int rank = pairing.rankOf(list, line, star, year, shift);
        return rank == Slips.NO_RANK ? NONE : Slips.costOf(rank);
    }

    public int best(int list, int year, int shift) {
        if (!rolls.has(list)) return UNKNOWN;
        if (!isMoment(year, shift)) return OUTSIDE;
        pairing.find(list, year, shift);
        return pairing.total;
    }

    public int matched(int list, int line, int year, int shift) {
        if (!rolls.hasLine(list, line)) return UNKNOWN;
        if (!isMoment(year, shift)) return OUTSIDE;
        pairing.find(list, year, shift);
        return pairing.starOf[line];
    }

    public int dated(int list, int shift, int from, int to) {
        if (!rolls.has(list)) return UNKNOWN;
        if (!areYears(shift, from, to)) return OUTSIDE;
        int years = weighYears(list, shift, from, to);
        int first = 0;
        for (int i = 1; i < years; i++) {
            if (yearCosts[i] < yearCosts[first]) first = i;
        }
        return from + YEAR_STEP * first + LAST_YEAR;
    }

    public int doubt(int list, int shift, int from, int to, int slack) {
        if (!rolls.has(list)) return UNKNOWN;
        if (!areYears(shift, from, to) || !isWithin(slack, 0, MOST_SLACK)) return OUTSIDE;
        int years = weighYears(list, shift, from, to);
        int least = yearCosts[0];
        for (int i = 1; i < years; i++) least = Math.min(least, yearCosts[i]);
        int near = 0;
        for (int i = 0; i < years; i++) {
            if (yearCosts[i] <= least + slack) near++;
        }
        return near;
    }

    public int shift(int list, int year) {
        if (!rolls.has(list)) return UNKNOWN;
        if (!isYear(year)) return OUTSIDE;
        pairing.find(list, year, 0);
        int told = pairing.sortPlainWays(list);
        if (told == 0) return NONE;
        return pairing.ways[(told - 1) / 2] + Slips.NEAR;
    }

    // ---- faults, copies

    public int fault(int list, int star, int year, int shift) {
        if (!rolls.has(list) || !stars.has(star)) return UNKNOWN;
        if (!isMoment(year, shift)) return OUTSIDE;
        copies.note(list, year, shift);
        return copies.faultOf(list, star);
    }

    public int share(int a, int b, int year, int shift) {
        if (!rolls.has(a) || !rolls.has(b)) return UNKNOWN;
        if (!isMoment(year, shift)) return OUTSIDE;
        copies.note(a, year, shift);
        copies.note(b, year, shift);
        return copies.inBoth(a, b);
    }

    public int apart(int a, int b, int year, int shift) {
        if (!rolls.has(a) || !rolls.has(b)) return UNKNOWN;
        if (!isMoment(year, shift)) return OUTSIDE;
        copies.note(a, year, shift);
        copies.note(b, year, shift);
        return copies.unlike(a, b);
    }

    public int tree(int year, int shift) {
        if (!isMoment(year, shift)) return OUTSIDE;
        copies.grow(year, shift);
        return copies.needed;
    }

    public int row(int i, int year, int shift) {
        if (!isMoment(year, shift)) return OUTSIDE;
        copies.grow(year, shift);
        return isWithin(i, 0, copies.rows - 1) ? copies.pairs[i] : NONE;
    }

    public int count(int what) {
        switch (what) {
            case 0: return stars.size;
            case 1: return rolls.size;
            case 2: return rolls.allLines();
            case 3: return stars.bright();
            default: return OUTSIDE;
        }
    }

    // ---- what is looked at ahead of an answer

    private static boolean isWithin(int n, int least, int most) {
        return n >= least && n <= most;
    }

    private static boolean isLong(int n) {
        return isWithin(n, 0, CIRCLE - 1);
    }

    private static boolean isPlace(int long0, int wide) {
        return isLong(long0) && isWithin(wide, -POLE, POLE);
    }

    private static boolean isYear(int year) {
        return isWithin(year, -LAST_YEAR, LAST_YEAR);
    }

    private static boolean isShift(int shift) {
        return isWithin(shift, -MOST_SHIFT, MOST_SHIFT);
    }

    private static boolean isMoment(int year, int shift) {
        return isYear(year) && isShift(shift);
    }

    private static boolean areYears(int shift, int from, int to) {
        if (!isShift(shift) || !isYear(from) || !isYear(to)) return false;
        return to >= from && yearsBetween(from, to) <= MOST_YEARS;
    }

    private static int yearsBetween(int from, int to) {
        return (to - from) / YEAR_STEP + 1;
    }

    /** Puts what each year's best match costs into yearCosts; how many years there are. */
    private int weighYears(int list, int shift, int from, int to) {
        int years = Math.min(yearsBetween(from, to), MOST_YEARS);
        for (int i = 0; i < years; i++) {
            pairing.find(list, from + YEAR_STEP * i, shift);
            yearCosts[i] = pairing.total;
        }
        return years;
    }

    /** The way from a longitude to another; the first may lie beyond the circle by a shift. */
    private static int leads(int from, int to) {
        return Math.floorMod(to - from + HALF_CIRCLE, CIRCLE) - HALF_CIRCLE;
    }

    /** The stars, and the limit that says which of them count. */
    private static final class Stars {
        final int[] longs = new int[MOST_STARS];
        final int[] wides = new int[MOST_STARS];
        final int[] motions = new int[MOST_STARS];
        final int[] lights = new int[MOST_STARS];
        int size = 0;
        int faintest = FAINTEST;

        boolean has(int star) {
            return star >= 0 && star < size;
        }

        int add(int long0, int wide, int motion, int light) {
            longs[size] = long0;
            wides[size] = wide;
            motions[size] = motion;
            lights[size] = light;
            return size++;
        }

        int longIn(int star, int year) {
            int turned = Math.floorDiv(5 * year, 6);
            int moved = Math.floorDiv(motions[star] * year, 100);
            return Math.floorMod(longs[star] + turned + moved, CIRCLE);
        }

        boolean counts(int star) {
            return lights[star] <= faintest;
        }

        int bright() {
            int found = 0;
            for (int star = 0; star < size; star++) {
                if (counts(star)) found++;
            }
            return found;
        }
    }

    /** The lists; the lines of all stand in one array, each list's in a stretch of its own. */
    private static final class Rolls {
        final int[] lines = new int[MOST_LISTS];
        int size = 0;
        private final int[] longs = new int[MOST_LISTS * MOST_LINES];
        private final int[] wides = new int[MOST_LISTS * MOST_LINES];

        boolean has(int list) {
            return list >= 0 && list < size;
        }

        boolean hasLine(int list, int line) {
            return has(list) && line >= 0 && line < lines[list];
        }

        int open() {
            return size++;
        }

        int add(int list, int long0, int wide) {
            int line = lines[list];
            lines[list] = line + 1;
            write(list, line, long0, wide);
            return line;
        }

        void write(int list, int line, int long0, int wide) {
            longs[list * MOST_LINES + line] = long0;
            wides[list * MOST_LINES + line] = wide;
        }

        int longOf(int list, int line) {
            return longs[list * MOST_LINES + line];
        }

        int wideOf(int list, int line) {
            return wides[list * MOST_LINES + line];
        }

        int allLines() {
            int all = 0;
            for (int list = 0; list < size; list++) all += lines[list];
            return all;
        }
    }

    /**
     * The slips by which a line matches a star. A rank is four times the cost and the slip's number,
     * so that the least rank is the slip of least cost and, of like ones, of the least number.
     */
    private static final class Slips {
        /** Above every rank. */
        static final int NO_RANK = 1 << 20;
        static final int NEAR = 30;
        static final int PLAIN = 0;
        private static final int SIGN = 1, HOUSE = 2, TENS = 3, KINDS = 4;
        private static final int SIGN_COST = 40, HOUSE_COST = 50, TENS_COST = 45;
        private static final int HOUSE_SIZE = 1800, TENS_SIZE = 600;

        static int rank(int way, int wide, int starWide) {
            int d = Math.abs(way);
            int e = Math.abs(wide - starWide);
            int mirrored = Math.abs(wide + starWide);
            int least = lesser(NO_RANK, PLAIN, d, e, 0);
            least = lesser(least, SIGN, d, mirrored, SIGN_COST);
            least = lesser(least, HOUSE, Math.abs(d - HOUSE_SIZE), e, HOUSE_COST);
            least = lesser(least, TENS, Math.abs(d - TENS_SIZE), e, TENS_COST);
            return lesser(least, TENS, d, Math.abs(e - TENS_SIZE), TENS_COST);
        }

        private static int lesser(int least, int kind, int x, int y, int more) {
            if (x > NEAR || y > NEAR) return least;
            int rank = KINDS * (x + y + more) + kind;
            return rank < least ? rank : least;
        }

        static int kindOf(int rank) {
            return rank % KINDS;
        }

        static int costOf(int rank) {
            return rank / KINDS;
        }
    }

    /**
     * The best match of a list, found line by line over the sets of stars that are taken. A match is
     * held as one number, its key: the cost on top, below it the star of each line, the first line
     * highest, so that the least key is the best match with its order of like ones.
     */
    private static final class Pairing {
        private static final int LEFT_COST = 100, LEFT_DIGIT = MOST_STARS;
        private static final int DIGIT_BITS = 4, COST_BITS = DIGIT_BITS * MOST_LINES, DIGIT_MASK = 15;
        /** Above every key, and so low that keys can be added to it. */
        private static final long FAR = 1L << 60;

        final int[] starOf = new int[MOST_LINES];
        final int[] ways = new int[MOST_LINES];
        int total = 0;
        private final Stars stars;
        private final Rolls rolls;
        private final int[] skyLongs = new int[MOST_STARS];
        private final long[] keys = new long[1 << MOST_STARS];
        private final int[] fitBits = new int[MOST_STARS];
        private final long[] fitKeys = new long[MOST_STARS];
        private int fits = 0;

        Pairing(Stars stars, Rolls rolls) {
            this.stars = stars;
            this.rolls = rolls;
        }

        int rankOf(int list, int line, int star, int year, int shift) {
            turnSky(year, shift);
            return turnedRank(list, line, star);
        }

        /** Leaves the best match's cost in total and each line's star, or NONE, in starOf. */
        void find(int list, int year, int shift) {
            turnSky(year, shift);
            Arrays.fill(keys, FAR);
            keys[0] = 0;
            int seen = 0;
            for (int line = 0; line < rolls.lines[list]; line++) {
                seen |= gatherFits(list, line);
                takeLine(line, seen);
            }
            readKey(leastKey(seen), rolls.lines[list]);
        }

        private void turnSky(int year, int shift) {
            for (int star = 0; star < stars.size; star++) skyLongs[star] = stars.longIn(star, year) + shift;
        }

        /** The rank in the sky as it was turned last. */
        int turnedRank(int list, int line, int star) {
            int way = leads(skyLongs[star], rolls.longOf(list, line));
            return Slips.rank(way, rolls.wideOf(list, line), stars.wides[star]);
        }

        /** Notes the stars that a line matches and what each adds to a key; these stars as bits. */
        private int gatherFits(int list, int line) {
            int bits = 0;
            fits = 0;
            for (int star = 0; star < stars.size; star++) {
                if (!stars.counts(star)) continue;
                int rank = turnedRank(list, line, star);
                if (rank == Slips.NO_RANK) continue;
                fitBits[fits] = 1 << star;
                fitKeys[fits] = keyPart(line, Slips.costOf(rank), star);
                bits |= fitBits[fits];
                fits++;
            }
            return bits;
        }

        private static long keyPart(int line, int cost, int digit) {
            return ((long) cost << COST_BITS) + ((long) digit << digitPlace(line));
        }

        private static int digitPlace(int line) {
            return DIGIT_BITS * (MOST_LINES - 1 - line);
        }

        /** Greater sets come first, since each is made of lesser ones as they stood before this line. */
        private void takeLine(int line, int seen) {
            long left = keyPart(line, LEFT_COST, LEFT_DIGIT);
            for (int taken = seen; taken >= 0; taken--) {
                if ((taken & ~seen) != 0) continue;
                long least = keys[taken] + left;
                for (int fit = 0; fit < fits; fit++) {
                    if ((taken & fitBits[fit]) == 0) continue;
                    least = Math.min(least, keys[taken ^ fitBits[fit]] + fitKeys[fit]);
                }
                keys[taken] = least;
            }
        }

        private long leastKey(int seen) {
            long least = keys[0];
            for (int taken = 1; taken <= seen; taken++) least = Math.min(least, keys[taken]);
            return least;
        }

        private void readKey(long key, int lines) {
            total = (int) (key >> COST_BITS);
            for (int line = 0; line < lines; line++) {
                int digit = (int) (key >> digitPlace(line)) & DIGIT_MASK;
                starOf[line] = digit == LEFT_DIGIT ? NONE : digit;
            }
        }

        /** Puts the ways of the found lines without a slip into ways, in order; how many there are. */
        int sortPlainWays(int list) {
            int told = 0;
            for (int line = 0; line < rolls.lines[list]; line++) {
                int star = starOf[line];
                if (star == NONE || Slips.kindOf(turnedRank(list, line, star)) != Slips.PLAIN) continue;
                insertWay(told, leads(skyLongs[star], rolls.longOf(list, line)));
                told++;
            }
            return told;
        }

        private void insertWay(int told, int way) {
            int at = told;
            while (at > 0 && ways[at - 1] > way) {
                ways[at] = ways[at - 1];
                at--;
            }
            ways[at] = way;
        }
    }

    /** The faults of the lists, and the tree of copies that needs the fewest. */
    private static final class Copies {
        final int[] pairs = new int[MOST_LISTS - 1];
        int rows = 0;
        int needed = 0;
        private final Stars stars;
        private final Rolls rolls;
        private final Pairing pairing;
        private final int[] faults = new int[MOST_LISTS * MOST_STARS];
        private final int[] groups = new int[MOST_LISTS];

        Copies(Stars stars, Rolls rolls, Pairing pairing) {
            this.stars = stars;
            this.rolls = rolls;
            this.pairing = pairing;
        }

        /** Notes the fault of each star in a list. */
        void note(int list, int year, int shift) {
            for (int star = 0; star < MOST_STARS; star++) faults[list * MOST_STARS + star] = Slips.PLAIN;
            pairing.find(list, year, shift);
            for (int line = 0; line < rolls.lines[list]; line++) {
                int star = pairing.starOf[line];
                if (star == NONE) continue;
                faults[list * MOST_STARS + star] = Slips.kindOf(pairing.turnedRank(list, line, star));
            }
        }

        int faultOf(int list, int star) {
            return faults[list * MOST_STARS + star];
        }

        int inBoth(int a, int b) {
            int found = 0;
            for (int star = 0; star < stars.size; star++) {
                int first = faultOf(a, star);
                if (first != Slips.PLAIN && first == faultOf(b, star)) found++;
            }
            return found;
        }

        int unlike(int a, int b) {
            int found = 0;
            for (int star = 0; star < stars.size; star++) {
                if (faultOf(a, star) != faultOf(b, star)) found++;
            }
            return found;
        }

        /** Grows the tree anew: its rows into pairs, how many into rows, the faults it needs into needed. */
        void grow(int year, int shift) {
            rows = 0;
            needed = 0;
            for (int list = 0; list < rolls.size; list++) {
                note(list, year, shift);
                groups[list] = list;
            }
            for (int i = 1; i < rolls.size; i++) addRow();
        }

        private void addRow() {
            int first = NONE, second = NONE, least = MOST_STARS + 1;
            for (int a = 0; a < rolls.size; a++) {
                for (int b = a + 1; b < rolls.size; b++) {
                    if (groups[a] == groups[b]) continue;
                    int faultsApart = unlike(a, b);
                    if (faultsApart >= least) continue;
                    first = a;
                    second = b;
                    least = faultsApart;
                }
            }
            if (first == NONE || rows >= pairs.length) return;
            pairs[rows] = 10 * first + second;
            rows++;
            needed += least;
            join(groups[first], groups[second]);
        }

        private void join(int kept, int lost) {
            for (int list = 0; list < rolls.size; list++) {
                if (groups[list] == lost) groups[list] = kept;
            }
        }
    }
}
