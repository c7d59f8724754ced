/** Terms, parts V and VI, and promises 24 to 27 and 33 to 43: GLASSES, WEEKS, HOUSES, CANDIDATES and WAYS where something is just so. */
public final class GlassEdgesTest {
    private static final int NOTHING = -1000000;
    private static final int NONE = ThinLine.NONE;

    public static void main(String[] args) {
        setsOfGlasses();
        lowestTerms();
        noneTogether();
        sameHour();
        sameHourKnown();
        saidByABar();
        saidBeyondBars();
        firstWeeks();
        aHundredWeeks();
        turns();
        eightHouses();
        housesOfGlasses();
        moreThanHalf();
        aloneInAWeek();
        threeRowsAndMore();
        theMiddleOne();
        tenCandidates();
        worths();
        hoursOfSets();
        setsOfSeveral();
        givesIsHeld();
        givesByTests();
        shortOf();
        fewestWays();
        fewestOfSeveral();
        asManyRowsAsCanBe();
        Due.end();
    }

    /** A CURVE that is straight; its gap is at 150. */
    private static ThinLine straight() {
        ThinLine x = new ThinLine();
        Due.curve(x, "bends 0; wide 0; gap 150 150");
        return x;
    }

    /** A ROW with that DEEP and a NOISE of 1 (SCORE a thousand times DEEP). */
    private static int row(ThinLine x, int week, int glass, int hour, int deep) {
        x.clock(week);
        int row = x.row(glass, hour);
        x.raw(row, 0, 0);
        x.raw(row, 299, 0);
        x.raw(row, 150, -deep);
        return row;
    }

    private static void setsOfGlasses() {
        ThinLine x = straight();
        for (int glass = 0; glass < 4; glass++) row(x, 0, glass, 0, 1 << 4 * glass);
        for (int set = 1; set <= 15; set++) {
            int sum = 0;
            for (int glass = 0; glass < 4; glass++) sum += (set >> glass & 1) << 4 * glass;
            int rows = Integer.bitCount(set);
            long above = x.together(0, set, 0, 0);
            long below = x.together(0, set, 0, 1);
            Due.due("rows of set " + set, x.together(0, set, 0, 2), rows);
            Due.due("set " + set, above * rows, sum * below);
            Due.due("set " + set + ", below the line", below, rows / java.math.BigInteger.valueOf(sum).gcd(java.math.BigInteger.valueOf(rows)).intValue());
        }
        for (int no : new int[] {0, -1, 16, 17, 31, Integer.MIN_VALUE, Integer.MAX_VALUE}) Due.due("set " + no, x.together(0, no, 0, 0), -2000000000);
    }

    private static void lowestTerms() {
        int[][] due = {
            // DEEP of four ROWS, above and below the line
            {0, 0, 0, 0, 0, 1}, {1, 0, 0, 0, 1, 4}, {1, 1, 0, 0, 1, 2}, {1, 1, 1, 0, 3, 4}, {1, 1, 1, 1, 1, 1}, {-1, 0, 0, 0, -1, 4}, {-1, -1, 0, 0, -1, 2},
            {-3, -3, 0, 0, -3, 2}, {5, -5, 0, 0, 0, 1}, {7, -5, 0, 0, 1, 2}, {100000, 100000, 100000, 99999, 399999, 4}, {-100000, -100000, -100000, -100000, -100000, 1}};
        for (int[] d : due) {
            ThinLine x = straight();
            for (int i = 0; i < 4; i++) row(x, 0, 2, i, d[i]);
            Due.due("above the line", x.together(0, 4, 0, 0), d[4]);
            Due.due("below the line", x.together(0, 4, 0, 1), d[5]);
            Due.due("rows", x.together(0, 4, 0, 2), 4);
        }
        ThinLine x = straight();
        for (int i = 0; i < 24; i++) row(x, 0, i % 4, i, 6);
        Due.due("24 rows, above", x.together(0, 15, 0, 0), 6);
        Due.due("24 rows, below", x.together(0, 15, 0, 1), 1);
        Due.due("24 rows", x.together(0, 15, 0, 2), 24);
    }

    private static void noneTogether() {
        ThinLine x = straight();
        for (int part = 0; part < 3; part++) Due.due("no rows: part " + part, x.together(0, 15, 399, part), 0);
        x.row(0, 0);
        row(x, 100, 0, 0, 8);
        for (int part = 0; part < 3; part++) {
            Due.due("none with a deep yet: part " + part, x.together(0, 15, 99, part), 0);
            Due.due("of another glass: part " + part, x.together(0, 14, 399, part), 0);
        }
        Due.due("one with a deep", x.together(0, 15, 100, 2), 1);
        Due.due("what it is", x.together(0, 15, 100, 0), 8);
    }

    private static void sameHour() {
        for (int hour : new int[] {0, 500, 999}) {
            ThinLine x = straight();
            row(x, 0, 0, hour, 10);
            Due.due("one alone", x.hour(0, 0, 0), 0);
            row(x, 0, 0, hour, 90);
            Due.due("two of one glass", x.hour(0, 0, 0), 0);
            row(x, 0, 1, hour == 999 ? 998 : hour + 1, 50);
            Due.due("another hour", x.hour(0, 0, 0), 0);
            row(x, 0, 1, hour, 30);
            Due.due("two pairs", x.hour(0, 0, 0), 2);
            Due.due("20 and 60", x.hour(0, 0, 1), 80);
            row(x, 0, 3, hour, -5);
            Due.due("five pairs", x.hour(0, 0, 0), 5);
            Due.due("and 15, 95 and 35", x.hour(0, 0, 1), 80 + 15 + 95 + 35);
            x.raw(x.row(2, hour), 0, 0);
            Due.due("none with one that has no deep", x.hour(0, 0, 0), 5);
            Due.due("none together with it", x.hour(0, 0, 1), 80 + 15 + 95 + 35);
        }
    }

    private static void sameHourKnown() {
        ThinLine x = straight();
        row(x, 10, 0, 7, 0);
        row(x, 20, 1, 7, 3);
        row(x, 30, 2, 7, 10);
        int[][] due = {{0, 0, 0}, {10, 0, 0}, {19, 0, 0}, {20, 1, 3}, {29, 1, 3}, {30, 3, 3 + 10 + 7}, {399, 3, 20}};
        for (int[] d : due) {
            Due.due("pairs known in " + d[0], x.hour(0, d[0], 0), d[1]);
            Due.due("together in " + d[0], x.hour(0, d[0], 1), d[2]);
        }
        ThinLine many = straight();
        for (int i = 0; i < 24; i++) row(many, 0, i % 4, 0, i);
        // each GLASS has six: six times six for each of six pairs of GLASSES
        Due.due("pairs of as many rows as can be", many.hour(0, 0, 0), 216);
    }

    private static void saidByABar() {
        ThinLine x = straight();
        row(x, 10, 0, 0, 5);
        row(x, 20, 1, 0, 5);
        row(x, 20, 1, 0, 6);
        row(x, 30, 3, 0, -5);
        x.row(2, 0);
        int[][] due = {
            // WEEK, bar, GLASSES
            {9, 5000, 0}, {10, 5000, 1}, {10, 5001, 0}, {10, 4999, 1}, {19, 5000, 1}, {20, 5000, 2}, {20, 5001, 1}, {20, 6000, 1}, {20, 6001, 0},
            {29, -5000, 2}, {30, -5000, 3}, {30, -4999, 2}, {30, -5001, 3}, {399, -999999, 3}, {399, 999999, 0}, {0, -999999, 0}};
        for (int[] d : due) Due.due("said in " + d[0] + " by " + d[1], x.said(0, d[0], d[1]), d[2]);
    }

    private static void saidBeyondBars() {
        int[][] due = {{1000, 999999, 1}, {999, 999999, 0}, {100000, 999999, 1}, {-999, -999999, 1}, {-1000, -999999, 0}, {-100000, -999999, 0}};
        for (int[] d : due) {
            ThinLine x = straight();
            row(x, 0, 0, 0, d[0]);
            x.house(0, d[1], 1);
            Due.due("said of deep " + d[0] + " by " + d[1], x.said(0, 0, d[1]), d[2]);
            Due.due("says so", x.says(0, 0), d[2]);
        }
        // without a SCORE no bar is low enough
        ThinLine x = straight();
        x.row(0, 0);
        x.house(0, -999999, 15);
        Due.due("no score is said", x.said(0, 399, -999999), 0);
        Due.due("no score says so", x.says(0, 399), 0);
    }

    private static void firstWeeks() {
        ThinLine x = straight();
        row(x, 10, 0, 0, 5);
        row(x, 20, 1, 0, 5);
        row(x, 20, 2, 0, 5);
        row(x, 30, 3, 0, 5);
        int[][] due = {
            // from, to, GLASSES, FIRST
            {0, 9, 1, -2}, {0, 10, 1, 10}, {10, 10, 1, 10}, {11, 11, 1, 11}, {0, 19, 2, -2}, {0, 20, 2, 20}, {0, 20, 3, 20}, {0, 20, 4, -2}, {0, 29, 4, -2},
            {0, 30, 4, 30}, {30, 30, 4, 30}, {29, 29, 4, -2}, {31, 99, 1, 31}, {300, 399, 4, 300}, {399, 399, 4, 399}, {0, 0, 1, -2}};
        for (int[] d : due) {
            Due.due("first of " + d[2] + " from " + d[0] + " to " + d[1], x.weeks(0, d[0], d[1], 5000, d[2], 0), d[3]);
            Due.due("first by a higher bar", x.weeks(0, d[0], d[1], 5001, d[2], 0), -2);
        }
        for (int no : new int[] {0, 5, -1}) {
            Due.due("first of " + no, x.weeks(0, 0, 9, 5000, no, 0), NONE);
            Due.due("turns of " + no, x.weeks(0, 0, 9, 5000, no, 1), NONE);
        }
        ThinLine early = straight();
        row(early, 0, 0, 0, 5);
        Due.due("first in the first", early.weeks(0, 0, 0, 5000, 1, 0), 0);
        Due.due("no turn in the first", early.weeks(0, 0, 0, 5000, 1, 1), 0);
        Due.due("no turn behind the first", early.weeks(0, 0, 99, 5000, 1, 1), 0);
    }

    private static void aHundredWeeks() {
        ThinLine x = straight();
        row(x, 99, 0, 0, 5);
        row(x, 100, 1, 0, 5);
        int[][] due = {{0, 98, -2, 0}, {0, 99, 99, 1}, {0, 100, NONE, NONE}, {1, 100, 99, 2}, {1, 101, NONE, NONE}, {299, 398, 299, 0}, {300, 399, 300, 0},
            {299, 399, NONE, NONE}, {300, 400, NONE, NONE}, {301, 400, NONE, NONE}, {-1, 0, NONE, NONE}, {-1, 98, NONE, NONE}, {5, 4, NONE, NONE}, {5, 5, -2, 0},
            {100, 100, 100, 0}, {99, 100, 99, 1}, {399, 0, NONE, NONE}};
        for (int[] d : due) {
            Due.due("first from " + d[0] + " to " + d[1], x.weeks(0, d[0], d[1], 5000, 1, 0), d[2]);
            Due.due("turns from " + d[0] + " to " + d[1], x.weeks(0, d[0], d[1], 5000, 1, 1), d[3]);
        }
    }

    private static void turns() {
        ThinLine x = straight();
        row(x, 10, 0, 0, 5);
        row(x, 11, 0, 0, 6);
        row(x, 20, 1, 0, 5);
        row(x, 20, 2, 0, 5);
        row(x, 21, 3, 0, 4);
        int[][] due = {
            // from, to, bar, TURNS
            {0, 99, 5000, 2}, {0, 99, 6000, 1}, {0, 99, 4000, 3}, {0, 99, 7000, 0}, {9, 10, 5000, 1}, {10, 11, 5000, 0}, {10, 10, 5000, 0}, {10, 19, 5000, 0},
            {10, 20, 5000, 1}, {19, 21, 4000, 2}, {20, 21, 4000, 1}, {21, 99, 4000, 0}};
        for (int[] d : due) Due.due("turns from " + d[0] + " to " + d[1] + " by " + d[2], x.weeks(0, d[0], d[1], d[2], 4, 1), d[3]);
    }

    private static void eightHouses() {
        ThinLine x = straight();
        Due.due("no house", x.says(0, 0), NONE);
        for (int i = 0; i < 8; i++) {
            Due.due("not there yet", x.says(i, 0), NONE);
            Due.due("house " + i, x.house(0, i % 2 == 0 ? -999999 : 999999, i % 2 == 0 ? 15 : 1), i);
            Due.due("there", x.says(i, 0), 0);
        }
        for (int i = 0; i < 3; i++) Due.due("house 8", x.house(0, 0, 1), NONE);
        Due.due("houses", x.count(10), 8);
        Due.due("no house 8", x.says(8, 0), NONE);
        row(x, 5, 0, 0, 0);
        for (int i = 0; i < 8; i++) Due.due("house " + i + " is as it was", x.says(i, 5), i % 2 == 0 ? 1 : 0);
    }

    private static void housesOfGlasses() {
        for (int glass = 0; glass < 4; glass++) {
            ThinLine x = straight();
            row(x, 50, glass, 0, 5);
            x.house(0, 5000, 1 << glass);
            x.house(0, 5000, 15 - (1 << glass));
            x.house(0, 5000, 15);
            x.house(0, 5001, 15);
            x.house(0, 4999, 1 << glass);
            int[] due = {1, 0, 1, 0, 1};
            for (int house = 0; house < 5; house++) {
                Due.due("house " + house + " of glass " + glass + " before", x.says(house, 49), 0);
                Due.due("house " + house + " of glass " + glass, x.says(house, 50), due[house]);
                Due.due("house " + house + " of glass " + glass + " at last", x.says(house, 399), due[house]);
            }
        }
        // each HOUSE by its own CURVE
        ThinLine x = straight();
        Due.curve(x, "bends 0; wide 0; gap 160 160");
        row(x, 0, 0, 0, 5);
        x.house(0, 5000, 1);
        x.house(1, -999999, 1);
        Due.due("by the one curve", x.says(0, 0), 1);
        Due.due("by the other there is no score", x.says(1, 0), 0);
    }

    private static void moreThanHalf() {
        ThinLine x = straight();
        row(x, 7, 0, 0, 5);
        Due.due("no houses", x.agreed(399), -2);
        // so many say so from WEEK 7 on, and so many never do
        int[][] steps = {{1, 0, 7}, {1, 1, -2}, {2, 1, 7}, {2, 2, -2}, {3, 2, 7}, {3, 3, -2}, {4, 3, 7}, {4, 4, -2}};
        int says = 0;
        int not = 0;
        for (int[] s : steps) {
            while (says < s[0]) says += x.house(0, 5000, 1) >= 0 ? 1 : 99;
            while (not < s[1]) not += x.house(0, 5001, 1) >= 0 ? 1 : 99;
            Due.due(s[0] + " of " + (s[0] + s[1]), x.agreed(399), s[2]);
            Due.due(s[0] + " of " + (s[0] + s[1]) + " in that week", x.agreed(7), s[2]);
            Due.due(s[0] + " of " + (s[0] + s[1]) + " before", x.agreed(6), -2);
        }
        ThinLine first = straight();
        row(first, 0, 0, 0, 5);
        first.house(0, 0, 1);
        Due.due("in the first week", first.agreed(0), 0);
        ThinLine last = straight();
        row(last, 399, 0, 0, 5);
        last.house(0, 0, 1);
        Due.due("in the last week", last.agreed(399), 399);
        Due.due("before the last week", last.agreed(398), -2);
        // one after the other: the WEEK in which it becomes more than half
        ThinLine x3 = straight();
        for (int glass = 0; glass < 3; glass++) {
            row(x3, 10 * glass + 10, glass, 0, 5);
            x3.house(0, 5000, 1 << glass);
        }
        Due.due("two of three, when the second says so", x3.agreed(399), 20);
        Due.due("two of three, not before", x3.agreed(19), -2);
    }

    private static void aloneInAWeek() {
        ThinLine x = straight();
        Due.due("no houses", x.alone(399), -2);
        for (int glass = 0; glass < 3; glass++) row(x, 30 - 10 * (2 - glass), glass, 0, 5);
        x.house(0, 5000, 4);
        Due.due("one that does not say so yet", x.alone(29), -2);
        Due.due("one that has no others", x.alone(30), 0);
        x.house(0, 5000, 2);
        x.house(0, 5000, 1);
        int[][] due = {{0, -2}, {9, -2}, {10, 2}, {19, 2}, {20, -2}, {30, -2}, {399, -2}};
        for (int[] d : due) Due.due("alone in " + d[0], x.alone(d[0]), d[1]);
        for (int i = 3; i < 8; i++) x.house(0, 5000, 8);
        Due.due("alone of eight", x.alone(10), 2);
        row(x, 40, 3, 0, 5);
        ThinLine last = straight();
        for (int i = 0; i < 7; i++) last.house(0, 5001, 15);
        last.house(0, 5000, 15);
        row(last, 0, 0, 0, 5);
        Due.due("the last of eight", last.alone(0), 7);
        for (int no : new int[] {-1, 400}) Due.due("alone in " + no, last.alone(no), NONE);
    }

    private static void threeRowsAndMore() {
        ThinLine x = straight();
        Due.due("no rows", x.odd(0, 2), -2);
        row(x, 0, 2, 0, 5);
        Due.due("one", x.odd(0, 2), -2);
        row(x, 0, 2, 0, 5);
        Due.due("two", x.odd(0, 2), -2);
        row(x, 0, 1, 0, 5);
        x.row(2, 0);
        Due.due("two, one of another glass and one without a deep", x.odd(0, 2), -2);
        row(x, 0, 2, 0, 5);
        Due.due("three alike, the least", x.odd(0, 2), 0);
        Due.due("the other glass", x.odd(0, 1), -2);
        x.raw(0, 150, NOTHING);
        Due.due("two again", x.odd(0, 2), -2);
        // KNOWN or not: a ROW told in the last WEEK
        row(x, 399, 2, 0, 50);
        Due.due("three, one of them the last", x.odd(0, 2), 5);
    }

    private static int oddOf(int... deep) {
        ThinLine x = straight();
        for (int d : deep) row(x, 0, 3, 0, d);
        return x.odd(0, 3);
    }

    private static void theMiddleOne() {
        Due.due("of 1, 5, 10", oddOf(1, 5, 10), 2);
        Due.due("of 0, 5, 10: as far, the least", oddOf(0, 5, 10), 0);
        Due.due("of 10, 5, 0: as far, the least", oddOf(10, 5, 0), 0);
        Due.due("of 5, 10, 1", oddOf(5, 10, 1), 1);
        Due.due("of 5, 0, 10: as far", oddOf(5, 0, 10), 1);
        // an even number: the lesser of the two in the middle
        Due.due("of 0, 4, 6, 10: from 4", oddOf(0, 4, 6, 10), 3);
        Due.due("of 0, 5, 5, 10: as far", oddOf(0, 5, 5, 10), 0);
        Due.due("of 10, 6, 4, 0", oddOf(10, 6, 4, 0), 0);
        Due.due("of 0, 5, 9, 10", oddOf(0, 5, 9, 10), 0);
        Due.due("of 0, 5, 9, 11", oddOf(0, 5, 9, 11), 3);
        Due.due("of -10, -6, -4, 0", oddOf(-10, -6, -4, 0), 3);
        Due.due("of -10, 0, 10, 21, 30", oddOf(-10, 0, 10, 21, 30), 0);
        Due.due("of -10, 0, 10, 21, 31", oddOf(-10, 0, 10, 21, 31), 4);
        Due.due("far and wide", oddOf(-100000, 0, 100000, 1, -1), 0);
        int[] many = new int[24];
        for (int i = 0; i < 24; i++) many[i] = i;
        Due.due("of 0 to 23: from 11", oddOf(many), 23);
        many[0] = 23;
        many[23] = 0;
        Due.due("of 23 down: from 11", oddOf(many), 0);
        many[23] = -1;
        Due.due("of -1 and 1 to 23: as far from 11", oddOf(many), 0);
        many[23] = -2;
        Due.due("of -2 and 1 to 23", oddOf(many), 23);
    }

    private static void tenCandidates() {
        ThinLine x = straight();
        for (int i = 0; i < 10; i++) Due.due("candidate " + i, x.candidate(i % 4, i % 2 == 0 ? 1 : 99), i);
        for (int i = 0; i < 3; i++) Due.due("candidate 10", x.candidate(0, 1), NONE);
        Due.due("candidates", x.count(7), 10);
        for (int glass = 0; glass < 4; glass++) row(x, 0, glass, 0, 0);
        Due.due("all of them", x.next(0, 999, 0), 1023);
        Due.due("what they are worth", x.next(0, 999, 1), 500 * 1000000L);
        Due.due("all hours", x.next(0, 500, 0), 1023);
        Due.due("one hour less", x.next(0, 499, 1), 499 * 1000000L);
        Due.due("one hour less, the set", x.next(0, 499, 0), 1023 - 256);
        Due.due("no hours", x.next(0, 0, 0), 0);
        Due.due("one hour", x.next(0, 1, 0), 1);
        for (int no : new int[] {-1, 1000, Integer.MIN_VALUE, Integer.MAX_VALUE}) Due.due("next for " + no, x.next(0, no, 0), NONE);
        ThinLine full = straight();
        for (int i = 0; i < 10; i++) full.candidate(0, 99);
        row(full, 0, 0, 0, 0);
        Due.due("more hours than can be asked for", full.next(0, 999, 0), 1023);
        Due.due("990 hours", full.next(0, 990, 0), 1023);
        Due.due("989 hours", full.next(0, 989, 0), 511);
    }

    /** A ROW with that NOISE. */
    private static void noisy(ThinLine x, int glass, int noise) {
        int row = x.row(glass, 0);
        x.raw(row, 0, 0);
        x.raw(row, 299, 0);
        x.raw(row, 10, 3 * noise);
    }

    private static void worths() {
        int[][] due = {
            // NOISE of two ROWS, hours, WORTH
            {1, 1, 1, 1000000}, {1, 1, 99, 99000000}, {1, 2, 1, 1000000}, {2, 2, 1, 500000}, {2, 3, 1, 500000}, {3, 3, 1, 333333}, {3, 4, 10, 3333333},
            {7, 7, 99, 14142857}, {33333, 33333, 1, 30}, {33333, 33332, 1, 30}};
        for (int[] d : due) {
            ThinLine x = straight();
            noisy(x, 1, d[0]);
            noisy(x, 1, d[1]);
            noisy(x, 0, 1);
            // without a CURVE it has no part in the mean
            x.row(1, 0);
            x.candidate(1, d[2]);
            Due.due("worth of " + d[2] + " hours by " + d[0] + " and " + d[1], x.next(0, 999, 1), d[3]);
            Due.due("the set", x.next(0, 999, 0), 1);
        }
        ThinLine x = straight();
        x.row(2, 0);
        noisy(x, 0, 1);
        x.candidate(2, 5);
        x.candidate(3, 5);
        Due.due("0 without", x.next(0, 999, 1), 0);
        Due.due("0 without, the set of fewest hours", x.next(0, 999, 0), 0);
        x.candidate(0, 5);
        Due.due("the one that is worth something", x.next(0, 999, 0), 4);
        // the CURVE is there without a DEEP, too
        Due.due("no deep", x.deep(0, 1, 0), NOTHING);
        Due.due("its worth", x.next(0, 999, 1), 5000000);
    }

    private static void hoursOfSets() {
        ThinLine x = straight();
        noisy(x, 0, 10);
        x.candidate(0, 3);
        x.candidate(0, 4);
        x.candidate(0, 9);
        // WORTH goes with the hours
        int[][] due = {{0, 0}, {2, 0}, {3, 1}, {4, 2}, {6, 2}, {7, 3}, {8, 3}, {9, 4}, {11, 4}, {12, 5}, {13, 6}, {15, 6}, {16, 7}, {999, 7}};
        for (int[] d : due) Due.due("the set for " + d[0], x.next(0, d[0], 0), d[1]);
    }

    private static void setsOfSeveral() {
        ThinLine x = straight();
        noisy(x, 0, 2);
        noisy(x, 1, 1);
        // WORTH 2000000 for 4 hours, and for 2
        x.candidate(0, 4);
        x.candidate(1, 2);
        x.candidate(1, 2);
        int[][] due = {{1, 0}, {2, 2}, {3, 2}, {4, 6}, {5, 6}, {6, 6}, {7, 6}, {8, 7}};
        for (int[] d : due) Due.due("the set for " + d[0], x.next(0, d[0], 0), d[1]);
        // as much WORTH for as many hours: the least number
        ThinLine y = straight();
        noisy(y, 0, 1);
        for (int hours : new int[] {5, 3, 2, 5}) y.candidate(0, hours);
        int[][] least = {{2, 4}, {3, 2}, {5, 1}, {7, 5}, {8, 3}, {10, 7}, {15, 15}};
        for (int[] d : least) Due.due("the least set for " + d[0], y.next(0, d[0], 0), d[1]);
    }

    private static int givesOf(String way) {
        ThinLine x = new ThinLine();
        Due.way(x, way);
        return x.gives(0);
    }

    private static void givesIsHeld() {
        Due.due("0", givesOf("gives 0"), 0);
        Due.due("-1", givesOf("gives 0 - 1"), 0);
        Due.due("1", givesOf("gives 1"), 1);
        Due.due("99999998", givesOf("gives 99999 * 1000 + 998"), 99999998);
        Due.due("99999999", givesOf("gives 99999 * 1000 + 999"), 99999999);
        Due.due("100000000", givesOf("gives 99999 * 1000 + 1000"), 99999999);
        Due.due("far above", givesOf("gives 99999 * 99999 * 99999"), 99999999);
        Due.due("far below", givesOf("gives 0 - 99999 * 99999 * 99999"), 0);
        // held when all are together, not one by one
        Due.due("below 0 first", givesOf("gives 0 - 5; gives 9"), 4);
        Due.due("above first", givesOf("gives 99999 * 2000; gives 0 - 99999 * 1999"), 99999);
        Due.due("twelve together", givesOf("gives 1" + ";gives 1".repeat(11)), 12);
    }

    private static void givesByTests() {
        ThinLine x = new ThinLine();
        Due.way(x, "gives 1 if light > 9; gives 10 if heat >= 9; gives 100 if storm = 9; gives 1000 if week < 9; gives 10000 if fall <= 9");
        for (int n = 8; n <= 10; n++) {
            for (int what = 0; what < 4; what++) x.told(what, n);
            x.clock(n);
            int due = (n > 9 ? 1 : 0) + (n >= 9 ? 10 : 0) + (n == 9 ? 100 : 0) + (n < 9 ? 1000 : 0) + (n <= 9 ? 10000 : 0);
            Due.due("gives at " + n, x.gives(0), due);
        }
        // none holds
        for (int what = 0; what < 4; what++) x.told(what, what == 3 ? 9999 : 0);
        Due.due("none holds", x.gives(0), 0);
    }

    private static void shortOf() {
        ThinLine x = new ThinLine();
        int[][] none = {{0, 0}, {1, 1}, {999999999, 999999999}};
        for (int[] d : none) Due.due("short of " + d[0] + " without ways", x.brief(d[0]), d[1]);
        for (int no : new int[] {-1, 1000000000, Integer.MIN_VALUE, Integer.MAX_VALUE}) Due.due("short of " + no, x.brief(no), NONE);
        Due.way(x, "gives 7");
        Due.way(x, "gives light");
        x.told(0, 3);
        int[][] due = {{0, 0}, {9, 0}, {10, 0}, {11, 1}, {12, 2}, {999999999, 999999989}};
        for (int[] d : due) Due.due("short of " + d[0], x.brief(d[0]), d[1]);
        for (int i = 0; i < 6; i++) Due.way(x, "gives 99999 * 1000 + 999");
        // as much as eight WAYS can give: 799999992 would be the most
        Due.due("short of all", x.brief(999999999), 999999999 - 6 * 99999999 - 10);
        Due.due("just not short", x.brief(6 * 99999999 + 10), 0);
        Due.due("just short", x.brief(6 * 99999999 + 11), 1);
        Due.due("all of them are needed", x.fewest(6 * 99999999 + 10, 0), 8);
        Due.due("all are not enough", x.fewest(6 * 99999999 + 11, 0), -2);
        Due.due("all but the least", x.fewest(6 * 99999999 + 7, 1), 253);
    }

    private static void fewestWays() {
        ThinLine x = new ThinLine();
        Due.due("none needed", x.fewest(0, 0), 0);
        Due.due("none needed, the set", x.fewest(0, 1), 0);
        Due.due("not without ways", x.fewest(1, 0), -2);
        Due.due("not without ways, no set", x.fewest(1, 1), -2);
        for (int n : new int[] {10, 20, 40}) Due.way(x, "gives " + n);
        int[][] due = {
            // need, how many, the set
            {0, 0, 0}, {1, 1, 4}, {39, 1, 4}, {40, 1, 4}, {41, 2, 6}, {50, 2, 6}, {60, 2, 6}, {61, 3, 7}, {70, 3, 7}, {71, -2, -2}, {999999999, -2, -2}};
        for (int[] d : due) {
            Due.due("how many for " + d[0], x.fewest(d[0], 0), d[1]);
            Due.due("the set for " + d[0], x.fewest(d[0], 1), d[2]);
        }
        for (int no : new int[] {-1, 1000000000}) Due.due("fewest for " + no, x.fewest(no, 0), NONE);
    }

    private static void fewestOfSeveral() {
        ThinLine x = new ThinLine();
        for (int n : new int[] {5, 8, 8, 5, 0}) Due.way(x, "gives " + n);
        int[][] due = {{1, 2}, {5, 2}, {8, 2}, {9, 6}, {16, 6}, {17, 7}, {21, 7}, {22, 15}, {26, 15}};
        for (int[] d : due) Due.due("the set for " + d[0], x.fewest(d[0], 1), d[1]);
        // WAYS that give nothing do not help
        ThinLine y = new ThinLine();
        for (int i = 0; i < 8; i++) Due.way(y, "gives " + (i == 7 ? 3 : 0));
        Due.due("the last one", y.fewest(3, 1), 128);
        Due.due("one is enough", y.fewest(1, 0), 1);
        Due.due("all are not enough", y.fewest(4, 1), -2);
        ThinLine z = new ThinLine();
        for (int i = 0; i < 8; i++) Due.way(z, "gives 1");
        for (int need = 0; need <= 8; need++) {
            Due.due("so many ones", z.fewest(need, 0), need);
            Due.due("the first ones", z.fewest(need, 1), (1 << need) - 1);
        }
        Due.due("one more than all", z.fewest(9, 0), -2);
    }

    /** 24 ROWS, and each of them counts: the first and the last are deeper. */
    private static void asManyRowsAsCanBe() {
        ThinLine x = straight();
        Due.curve(x, "bends 0; wide 0; gap 160 160");
        for (int i = 0; i < 24; i++) row(x, i, i % 4, i / 2, i == 0 || i == 23 ? 9 : 5);
        Due.due("together", x.together(0, 15, 399, 0), 16);
        Due.due("together, below the line", x.together(0, 15, 399, 1), 3);
        Due.due("apart", x.apart(0, 1, 9000), 2);
        // HOURS are shared by two and two
        Due.due("same hour", x.hour(0, 399, 0), 12);
        Due.due("same hour, together", x.hour(0, 399, 1), 8);
        Due.due("said by all", x.said(0, 399, 5000), 4);
        Due.due("said by the first and the last", x.said(0, 399, 9000), 2);
        Due.due("first of two", x.weeks(0, 0, 99, 9000, 2, 0), 23);
        Due.due("turns", x.weeks(0, 0, 99, 5000, 1, 1), 3);
        x.house(0, 9000, 8);
        x.house(0, 9000, 6);
        Due.due("says", x.says(0, 23), 1);
        Due.due("does not say", x.says(0, 22), 0);
        Due.due("the glasses between", x.says(1, 399), 0);
        Due.due("agreed", x.agreed(399), -2);
        Due.due("alone", x.alone(399), 0);
        Due.due("odd, the first", x.odd(0, 0), 0);
        Due.due("odd, the last", x.odd(0, 3), 23);
        x.candidate(3, 1);
        Due.due("worth", x.next(0, 1, 1), 1000000);
    }
}
