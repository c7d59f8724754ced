/** Terms, parts II and III, and promises 13 to 21 and 32: CURVES and gaps where something is just so, one less or one more. */
public final class CurveEdgesTest {
    private static final int NOTHING = -1000000;
    private static final int NO_SCORE = -1000000000;

    public static void main(String[] args) {
        whereKnotsAre();
        atMostWideAway();
        withoutClauses();
        usedColours();
        skipsOfEachRow();
        withoutKnots();
        heightsDownwards();
        heightsAheadAndBehind();
        meansOfKnots();
        leftOver();
        deepDownwards();
        deepOfSkipped();
        noiseUpwards();
        scoreDownwards();
        movedWithinAll();
        placesElsewhere();
        placesWithADeep();
        notBelowItsOwn();
        deepestOfSeveral();
        drawnAsDeep();
        drawnOfOneToFifty();
        drawnAtAllColours();
        bentFromNoneToForty();
        costDownwards();
        bestOfSeveral();
        bestOfForty();
        bestWithoutCurves();
        takenDownwards();
        takenNearerThanWide();
        takenAtTheMiddle();
        apartByABar();
        apartWithoutScores();
        Due.end();
    }

    /** A ROW with these numbers alone: COLOUR, RAW, COLOUR, RAW and so on. */
    private static ThinLine with(String curve, int... read) {
        ThinLine x = new ThinLine();
        x.row(0, 0);
        for (int i = 0; i + 1 < read.length; i += 2) x.raw(0, read[i], read[i + 1]);
        Due.curve(x, curve);
        return x;
    }

    private static boolean isKnot(int bends, int colour) {
        boolean is = false;
        for (int k = 0; k <= bends + 1; k++) is |= 299 * k / (bends + 1) == colour;
        return is;
    }

    private static void whereKnotsAre() {
        for (int bends : new int[] {0, 1, 2, 12, 39, 40}) {
            int all = 0;
            for (int from = 0; from < 300; from += 24) {
                ThinLine x = new ThinLine();
                // COLOUR 1 is no KNOT of any of these
                Due.curve(x, "wide 0; gap 1 1; bends " + bends);
                for (int colour = from; colour < Math.min(300, from + 24); colour++) {
                    int row = x.row(0, 0);
                    x.raw(row, colour, 5);
                    Due.due("of " + bends + " bends a knot at " + colour, x.deep(0, row, 3), isKnot(bends, colour) ? 1 : 0);
                    all += (int) x.deep(0, row, 3);
                }
            }
            Due.due("knots of " + bends + " bends", all, bends + 2);
        }
    }

    private static void atMostWideAway() {
        for (int wide : new int[] {0, 1, 3, 49, 50}) {
            String curve = "bends 1; gap 298 298; wide " + wide;
            Due.due("wide " + wide + ": so far behind the first", with(curve, wide, 5).deep(0, 0, 3), 1);
            Due.due("wide " + wide + ": farther behind the first", with(curve, wide + 1, 5).deep(0, 0, 3), 0);
            Due.due("wide " + wide + ": so far ahead of the second", with(curve, 149 - wide, 5).deep(0, 0, 3), 1);
            Due.due("wide " + wide + ": farther ahead of the second", with(curve, 148 - wide, 5).deep(0, 0, 3), 0);
            Due.due("wide " + wide + ": so far behind the second", with(curve, 149 + wide, 5).deep(0, 0, 3), 1);
            Due.due("wide " + wide + ": farther behind the second", with(curve, 150 + wide, 5).deep(0, 0, 3), 0);
            if (wide != 1) Due.due("wide " + wide + ": so far ahead of the last", with(curve, 299 - wide, 5).deep(0, 0, 3), 1);
            if (wide != 0) Due.due("wide " + wide + ": farther ahead of the last", with(curve, 298 - wide, 5).deep(0, 0, 3), 0);
        }
    }

    private static void withoutClauses() {
        ThinLine x = new ThinLine();
        int row = Due.made(x, 0, 0, "shine 5", 0);
        Due.curve(x, "skip 1 > 2");
        Due.due("gap: 139", x.curve(0, row, 139, 0), 1);
        Due.due("gap: 140", x.curve(0, row, 140, 0), 0);
        Due.due("gap: 159", x.curve(0, row, 159, 0), 0);
        Due.due("gap: 160", x.curve(0, row, 160, 0), 1);
        Due.due("twelve bends", x.deep(0, row, 3), 14);
        Due.due("its own bends are twelve", x.bent(0, row, 12), x.deep(0, row, 2));
        // the second KNOT is at 23
        int[][] due = {{19, 0}, {20, 1}, {23, 1}, {26, 1}, {27, 0}};
        for (int[] d : due) {
            int other = x.row(0, 0);
            x.raw(other, d[0], 5);
            Due.due("wide 3 at 23: " + d[0], x.deep(0, other, 3), d[1]);
        }
    }

    private static void usedColours() {
        ThinLine x = new ThinLine();
        int row = Due.made(x, 2, 999, "shine 5", 0);
        Due.curve(x, "gap 0 0");
        Due.curve(x, "gap 299 299");
        Due.curve(x, "gap 0 298");
        Due.curve(x, "gap 0 299");
        Due.curve(x, "gap 10 20; skip colour = 9; skip colour = 21 and glass = 2; skip hour < 999 or row > 0");
        int[][] due = {{0, 0, 0}, {0, 1, 1}, {0, 299, 1}, {1, 299, 0}, {1, 298, 1}, {1, 0, 1}, {2, 299, 1}, {2, 298, 0}, {3, 0, 0}, {3, 299, 0},
            {4, 8, 1}, {4, 9, 0}, {4, 10, 0}, {4, 20, 0}, {4, 21, 0}, {4, 22, 1}};
        for (int[] d : due) Due.due("used by " + d[0] + " at " + d[1], x.curve(d[0], row, d[1], 0), d[2]);
        int[] many = {299, 299, 1, 0, 300 - 11 - 2};
        for (int curve = 0; curve < many.length; curve++) Due.due("used by " + curve, x.deep(curve, row, 4), many[curve]);
        x.raw(row, 8, NOTHING);
        Due.due("not used without a number", x.curve(4, row, 8, 0), 0);
        Due.due("used by 4, one less", x.deep(4, row, 4), 286);
        x.raw(row, 8, -100000);
        Due.due("used again", x.curve(4, row, 8, 0), 1);
    }

    private static void skipsOfEachRow() {
        ThinLine x = new ThinLine();
        for (int i = 0; i < 4; i++) {
            x.row(3 - i, 10 * i);
            x.raw(i, 0, 5);
        }
        Due.curve(x, "skip row = 0");
        Due.curve(x, "skip glass = 0");
        Due.curve(x, "skip hour = 10");
        Due.curve(x, "skip colour = 0 and row = 2");
        int[] skipped = {0, 3, 1, 2};
        for (int curve = 0; curve < 4; curve++) {
            for (int row = 0; row < 4; row++) {
                Due.due("curve " + curve + " for row " + row, x.curve(curve, row, 0, 0), row == skipped[curve] ? 0 : 1);
            }
        }
    }

    private static void withoutKnots() {
        // a number in the gap alone, a skipped one, one too far away, none
        ThinLine[] all = {with("wide 3", 150, 5), with("skip colour = 0", 0, 5), with("bends 0; wide 3", 4, 5), with("wide 3")};
        int[] used = {0, 0, 1, 0};
        for (int i = 0; i < all.length; i++) {
            ThinLine x = all[i];
            Due.due("no knots: " + i, x.deep(0, 0, 3), 0);
            Due.due("no knots: used", x.deep(0, 0, 4), used[i]);
            Due.due("no knots: deep", x.deep(0, 0, 0), NOTHING);
            Due.due("no knots: noise", x.deep(0, 0, 1), ThinLine.NONE);
            Due.due("no knots: score", x.deep(0, 0, 2), NO_SCORE);
            for (int colour : new int[] {0, 4, 150, 299}) {
                Due.due("no knots: height", x.curve(0, 0, colour, 1), NOTHING);
                Due.due("no knots: left", x.curve(0, 0, colour, 2), NOTHING);
            }
            Due.due("no knots: elsewhere", x.elsewhere(0, 0, 0), -2);
            Due.due("no knots: those not below", x.elsewhere(0, 0, 1), -2);
            Due.due("no knots: taken", x.taken(0, 0, 1, 1), NOTHING);
            Due.due("no knots: ripple", x.ripple(0, 0, 0), ThinLine.NONE);
            Due.due("no knots: power", x.ripple(0, 0, 1), ThinLine.NONE);
            Due.due("no knots: smooth", x.smooth(0, 0), NOTHING);
            Due.due("no knots: likeliest", x.likeliest(0, 0), -2);
            Due.due("no knots: weightiest", x.weightiest(0, 0), -2);
            Due.due("no knots: its worth", x.next(0, 999, 1), 0);
            Due.law(x, "shine 5");
            Due.due("no knots: drawn", x.drawn(0, 0, 0, 0, 1), -2);
        }
    }

    private static void heightsDownwards() {
        int[][] due = {
            // the rise from 0 to 299, a COLOUR, HEIGHT there
            {0, 150, 0}, {1, 0, 0}, {1, 1, 0}, {1, 298, 0}, {1, 299, 1}, {-1, 0, 0}, {-1, 1, -1}, {-1, 298, -1}, {-1, 299, -1},
            {299, 1, 1}, {299, 298, 298}, {-299, 1, -1}, {-299, 298, -298}, {300, 1, 1}, {300, 298, 298}, {300, 299, 300}, {-300, 1, -2},
            {-300, 298, -299}, {-300, 299, -300}, {100000, 1, 334}, {-100000, 1, -335}};
        for (int[] d : due) {
            ThinLine x = with("bends 0; wide 0; gap 150 150", 0, 0, 299, d[0]);
            Due.due("height at " + d[1] + " of a rise of " + d[0], x.curve(0, 0, d[1], 1), d[2]);
        }
        // from the one end of all numbers to the other
        ThinLine x = with("bends 0; wide 0; gap 150 150", 0, -100000, 299, 100000);
        Due.due("height: in the middle of all", x.curve(0, 0, 149, 1), -100000 + Math.floorDiv(200000 * 149, 299));
        for (int i = 0; i < 20; i++) {
            x.slip(0, 0, 0, 9999);
            x.slip(0, 299, 299, -9999);
        }
        Due.due("height: and of all slips", x.curve(0, 0, 149, 1), (int) (-299980 + Math.floorDiv(599960L * 149, 299L)));
        Due.due("height: at the first", x.curve(0, 0, 0, 1), -299980);
        Due.due("height: at the last", x.curve(0, 0, 299, 1), 299980);
    }

    private static void heightsAheadAndBehind() {
        // KNOTS at 0, 99, 199 and 299: the outer ones are left out
        ThinLine x = with("bends 2; wide 0; gap 250 250", 99, 10, 199, 110);
        int[][] due = {{0, 10}, {98, 10}, {99, 10}, {100, 11}, {198, 109}, {199, 110}, {200, 110}, {299, 110}};
        for (int[] d : due) Due.due("height at " + d[0], x.curve(0, 0, d[0], 1), d[1]);
        // the inner ones are left out
        x = with("bends 2; wide 0; gap 250 250", 0, 0, 299, 598);
        for (int colour : new int[] {0, 1, 98, 99, 100, 199, 298, 299}) Due.due("height over left out ones", x.curve(0, 0, colour, 1), 2 * colour);
        // one alone
        x = with("bends 2; wide 0; gap 250 250", 199, -7);
        for (int colour : new int[] {0, 198, 199, 200, 299}) Due.due("height of one knot", x.curve(0, 0, colour, 1), -7);
        Due.due("one knot", x.deep(0, 0, 3), 1);
        // all four, each its own slope
        x = with("bends 2; wide 0; gap 250 250", 0, 99, 99, 0, 199, 100, 299, -100);
        int[][] slopes = {{0, 99}, {1, 98}, {98, 1}, {99, 0}, {100, 1}, {199, 100}, {200, 98}, {298, -98}, {299, -100}};
        for (int[] d : slopes) Due.due("height of each slope at " + d[0], x.curve(0, 0, d[0], 1), d[1]);
    }

    private static void meansOfKnots() {
        int[][] due = {{10, 10, 10}, {10, 11, 10}, {10, 12, 11}, {-10, -11, -11}, {-1, 0, -1}, {1, 0, 0}, {-1, 1, 0}, {-2, 1, -1}};
        for (int[] d : due) {
            ThinLine x = with("bends 1; wide 1; gap 298 298", 148, d[0], 150, d[1]);
            Due.due("the mean of " + d[0] + " and " + d[1], x.curve(0, 0, 0, 1), d[2]);
        }
        // one of them lies in the gap, or is skipped
        Due.due("the mean beside the gap", with("bends 1; wide 1; gap 150 151", 148, 10, 150, 20).curve(0, 0, 0, 1), 10);
        Due.due("the mean but for the skipped", with("bends 1; wide 1; gap 298 298; skip colour < 149", 148, 10, 150, 20).curve(0, 0, 0, 1), 20);
        // what is told is less a SLIP
        ThinLine x = with("bends 1; wide 1; gap 298 298", 148, 10, 150, 20);
        x.slip(0, 150, 150, 3);
        Due.due("the mean of what is read", x.curve(0, 0, 0, 1), 13);
    }

    private static void leftOver() {
        ThinLine x = with("bends 0; wide 0; gap 150 151", 0, 0, 299, 299, 150, 100, 10, 50);
        int[][] due = {{0, 0}, {10, 40}, {150, -50}, {299, 0}, {1, NOTHING}, {151, NOTHING}, {298, NOTHING}};
        for (int[] d : due) Due.due("left at " + d[0], x.curve(0, 0, d[0], 2), d[1]);
        Due.due("height without a number", x.curve(0, 0, 151, 1), 151);
    }

    /** DEEP of LEFT one and, if it is there, of another in a gap of three. */
    private static long deepOf(int... left) {
        ThinLine x = with("bends 0; wide 0; gap 150 152", 0, 0, 299, 0);
        for (int i = 0; i < left.length; i++) x.raw(0, 150 + i, left[i]);
        return x.deep(0, 0, 0);
    }

    private static void deepDownwards() {
        Due.due("deep of nothing", deepOf(), NOTHING);
        Due.due("deep of 0", deepOf(0), 0);
        Due.due("deep of -7", deepOf(-7), 7);
        Due.due("deep of 7", deepOf(7), -7);
        int[][] two = {{0, 0}, {-1, 0}, {-2, 1}, {-3, 1}, {-4, 2}, {1, -1}, {2, -1}, {3, -2}, {4, -2}};
        for (int[] d : two) Due.due("deep of 0 and " + d[0], deepOf(0, d[0]), d[1]);
        int[][] three = {{-1, 0}, {-2, 0}, {-3, 1}, {-4, 1}, {1, -1}, {2, -1}, {3, -1}, {4, -2}};
        for (int[] d : three) Due.due("deep of 0, 0 and " + d[0], deepOf(0, 0, d[0]), d[1]);
        Due.due("deep: the most", deepOf(-100000, -100000), 100000);
        Due.due("deep: the least", deepOf(100000, 100000), -100000);
        // the gap's first and last COLOUR count, those beside it do not
        ThinLine x = with("bends 0; wide 0; gap 150 152", 0, 0, 299, 0, 149, -50, 153, -50);
        Due.due("deep: beside the gap", x.deep(0, 0, 0), NOTHING);
        x.raw(0, 152, -8);
        Due.due("deep: the last of the gap", x.deep(0, 0, 0), 8);
        x.raw(0, 150, -4);
        Due.due("deep: the first of the gap", x.deep(0, 0, 0), 6);
    }

    private static void deepOfSkipped() {
        ThinLine x = with("bends 0; wide 0; gap 150 152; skip colour >= 150", 0, 0, 150, -9);
        Due.due("skipped in the gap", x.deep(0, 0, 0), 9);
        Due.due("nothing there is used", x.deep(0, 0, 4), 1);
        // at the end of all COLOURS
        Due.due("a gap at the first", with("bends 0; wide 0; gap 0 0", 0, -9, 299, 0).deep(0, 0, 0), 9);
        Due.due("a gap at the last", with("bends 0; wide 0; gap 299 299", 0, 0, 299, -9).deep(0, 0, 0), 9);
    }

    private static void noiseUpwards() {
        int[][] due = {{0, 1}, {1, 1}, {2, 1}, {3, 1}, {4, 2}, {6, 2}, {7, 3}, {-1, 1}, {-3, 1}, {-4, 2}, {-6, 2}, {-7, 3}, {100000, 33334}};
        for (int[] d : due) {
            ThinLine x = with("bends 0; wide 0; gap 150 152", 0, 0, 299, 0, 10, d[0]);
            Due.due("noise of " + d[0] + " by 3", x.deep(0, 0, 1), d[1]);
        }
        // LEFT of unlike signs does not go away
        Due.due("noise without sign", with("bends 0; wide 0; gap 150 152", 0, 0, 299, 0, 10, 8, 20, -8).deep(0, 0, 1), 4);
        Due.due("noise without the gap", with("bends 0; wide 0; gap 150 152", 0, 0, 299, 0, 150, 999).deep(0, 0, 1), 1);
        Due.due("noise without the skipped", with("bends 0; wide 0; gap 150 152; skip colour = 10", 0, 0, 299, 0, 10, 999).deep(0, 0, 1), 1);
    }

    private static void scoreDownwards() {
        int[][] due = {
            // DEEP, three times the NOISE, SCORE
            {0, 9, 0}, {1, 3, 1000}, {1, 6, 500}, {1, 9, 333}, {2, 9, 666}, {3, 9, 1000}, {-1, 3, -1000}, {-1, 9, -334}, {-2, 9, -667}, {-3, 9, -1000},
            {1, 3000, 1}, {1, 3003, 0}, {-1, 3003, -1}, {100000, 0, 100000000}, {-100000, 0, -100000000}};
        for (int[] d : due) {
            ThinLine x = with("bends 0; wide 0; gap 150 152", 0, 0, 299, 0, 10, d[1], 150, -d[0]);
            Due.due("score of " + d[0] + " by " + d[1] / 3, x.deep(0, 0, 2), d[2]);
        }
    }

    private static void movedWithinAll() {
        int[][] gaps = {{0, 0, 299}, {299, 299, 299}, {150, 150, 299}, {0, 1, 298}, {140, 159, 280}, {0, 298, 1}, {1, 299, 1}, {0, 299, 0}, {100, 199, 200}};
        for (int[] g : gaps) {
            ThinLine x = new ThinLine();
            int row = Due.made(x, 0, 0, "shine 5", 0);
            Due.curve(x, "gap " + g[0] + " " + g[1]);
            boolean all = g[1] - g[0] == 299;
            for (int from : new int[] {0, g[0], g[2] - 1, g[2]}) {
                if (from >= 0) Due.due("gap " + g[0] + " " + g[1] + " moved to " + from, x.moved(0, row, from), all ? NO_SCORE : 0);
            }
            for (int from : new int[] {-1, g[2] + 1, 300, Integer.MIN_VALUE, Integer.MAX_VALUE}) {
                Due.due("gap " + g[0] + " " + g[1] + " not moved to " + from, x.moved(0, row, from), -2000000000);
            }
        }
        // the same length, and no more
        ThinLine x = with("bends 0; wide 0; gap 150 151", 0, 0, 299, 0, 20, -6);
        int[][] due = {{18, NO_SCORE}, {19, 6000}, {20, 6000}, {21, NO_SCORE}, {150, NO_SCORE}};
        for (int[] d : due) Due.due("moved to " + d[0], x.moved(0, 0, d[0]), d[1]);
        // onto the KNOTS: the other one is the CURVE
        Due.due("moved onto the first knot", x.moved(0, 0, 0), 0);
        Due.due("moved onto the last knot", x.moved(0, 0, 298), 0);
    }

    private static void placesElsewhere() {
        int[][] due = {{0, 0, 299}, {299, 299, 299}, {150, 150, 299}, {0, 1, 297}, {1, 2, 296}, {2, 3, 296}, {0, 149, 1}, {0, 150, 0}, {150, 299, 1},
            {149, 299, 0}, {100, 199, 2}, {100, 200, 0}, {99, 199, 0}, {99, 198, 2}, {101, 200, 2}, {140, 159, 242}, {0, 298, 0}};
        for (int[] d : due) {
            ThinLine x = new ThinLine();
            int row = Due.made(x, 0, 0, "shine 5", 0);
            Due.curve(x, "gap " + d[0] + " " + d[1]);
            Due.due("places beside gap " + d[0] + " " + d[1], x.elsewhere(0, row, 0), d[2]);
            Due.due("places not below", x.elsewhere(0, row, 1), d[2]);
            int first = d[0] > d[1] - d[0] ? 0 : d[1] + 1;
            Due.due("the first of these", x.deepest(0, row, 0), d[2] == 0 ? -2000000000 : first);
            Due.due("its score", x.deepest(0, row, 1), d[2] == 0 ? -2000000000 : 0);
        }
    }

    private static void placesWithADeep() {
        ThinLine x = with("bends 0; wide 0; gap 140 149", 0, 0, 299, 0, 145, 0);
        // from 0 and from 290
        Due.due("places with a number", x.elsewhere(0, 0, 0), 2);
        int[][] more = {
            // 139 from 130 alone: all others have a COLOUR in common with the gap
            {139, 3}, {138, 4}, {150, 5}, {151, 6}};
        for (int[] m : more) {
            x.raw(0, m[0], 0);
            Due.due("places with a number, and " + m[0], x.elsewhere(0, 0, 0), m[1]);
        }
        x.raw(0, 140, 0);
        x.raw(0, 149, 0);
        Due.due("numbers of its own gap do not count", x.elsewhere(0, 0, 0), 6);
        // the CURVE may be gone where the gap is
        x = with("bends 0; wide 0; gap 140 149", 0, 0, 145, 0);
        Due.due("no curve at the only other place", x.elsewhere(0, 0, 0), 0);
        Due.due("and no deepest", x.deepest(0, 0, 0), -2000000000);
        Due.due("and no score of it", x.deepest(0, 0, 1), -2000000000);
        x.raw(0, 145, NOTHING);
        Due.due("its own gap has no deep", x.elsewhere(0, 0, 0), -2);
        Due.due("its own gap has no deep, none not below", x.elsewhere(0, 0, 1), -2);
    }

    private static void notBelowItsOwn() {
        int[][] due = {{-9, 0}, {-10, 1}, {-11, 1}};
        for (int[] d : due) {
            // own NOISE and that of the place from 130 are both 4 but for -9: then 3
            ThinLine x = with("bends 0; wide 0; gap 140 149", 0, 0, 299, 0, 145, -10, 139, d[0]);
            Due.due("with a deep", x.elsewhere(0, 0, 0), 3);
            Due.due("not below, by " + d[0], x.elsewhere(0, 0, 1), d[1]);
            Due.due("by moving", x.moved(0, 0, 130) >= x.deep(0, 0, 2) ? 1 : 0, d[1]);
        }
        // its own below 0: all others are above
        Due.due("all above", with("bends 0; wide 0; gap 140 149", 0, 0, 299, 0, 145, 10).elsewhere(0, 0, 1), 2);
    }

    private static void deepestOfSeveral() {
        ThinLine x = with("bends 0; wide 0; gap 150 150", 0, 0, 299, 0, 20, -6, 30, -6, 150, -99);
        Due.due("deepest: of several the first", x.deepest(0, 0, 0), 20);
        Due.due("deepest: not its own", x.deepest(0, 0, 1), x.moved(0, 0, 20));
        x.raw(0, 30, -7);
        Due.due("deepest: the deeper one", x.deepest(0, 0, 0), 30);
        x.raw(0, 20, -8);
        Due.due("deepest: the first one", x.deepest(0, 0, 0), 20);
        x.raw(0, 150, NOTHING);
        Due.due("deepest: its own without a number", x.deepest(0, 0, 0), 20);
        // all below 0
        x = with("bends 0; wide 0; gap 150 150; skip colour = 20 or colour = 30", 299, 0, 20, 7, 30, 6);
        Due.due("deepest: below 0", x.deepest(0, 0, 0), 30);
        Due.due("deepest: its score below 0", x.deepest(0, 0, 1), -6000);
    }

    private static void drawnAsDeep() {
        for (int less = -1; less <= 1; less++) {
            ThinLine x = new ThinLine();
            Due.law(x, "shine 990 if colour >= 140 and colour <= 159; shine 1000");
            Due.curve(x, "wide 3");
            x.row(0, 0);
            x.make(0, 0, 0, 0, 299);
            x.slip(0, 140, 159, less);
            Due.due("its own score", x.deep(0, 0, 2), 1000 * (10 + less));
            Due.due("drawn beside " + less, x.drawn(0, 0, 0, 0, 5), less > 0 ? 0 : 5);
            Due.due("drawn once beside " + less, x.drawn(0, 0, 0, 0, 1), less > 0 ? 0 : 1);
        }
        ThinLine x = new ThinLine();
        Due.law(x, "shine 1000; eats 0 1000");
        Due.curve(x, "bends 0; wide 0; gap 150 150");
        x.line(0, 150, 10);
        x.row(0, 0);
        x.make(0, 0, 0, 0, 299);
        Due.due("eaten", x.deep(0, 0, 0), 10);
        Due.due("drawn without what is eaten", x.drawn(0, 0, 0, 0, 50), 0);
        x.raw(0, 150, 1000);
        Due.due("drawn without, as deep", x.drawn(0, 0, 0, 0, 50), 50);
    }

    private static void drawnOfOneToFifty() {
        ThinLine x = new ThinLine();
        Due.law(x, "shine 5");
        Due.curve(x, "wide 3");
        x.row(0, 0);
        x.make(0, 0, 0, 0, 299);
        for (int n : new int[] {1, 2, 49, 50}) Due.due("drawn " + n, x.drawn(0, 0, 0, 0, n), n);
        for (int n : new int[] {0, -1, 51, Integer.MIN_VALUE, Integer.MAX_VALUE}) Due.due("drawn " + n, x.drawn(0, 0, 0, 0, n), ThinLine.NONE);
        for (int seed : new int[] {0, 1, Integer.MAX_VALUE}) Due.due("seed " + seed, x.drawn(0, 0, 0, seed, 1), 1);
        for (int seed : new int[] {-1, Integer.MIN_VALUE}) Due.due("seed " + seed, x.drawn(0, 0, 0, seed, 1), ThinLine.NONE);
        Due.due("nothing was made", x.count(8), 300);
        for (int c = 140; c < 160; c++) x.raw(0, c, NOTHING);
        Due.due("no deep", x.drawn(0, 0, 0, 0, 1), -2);
        Due.due("no deep, and not as told", x.drawn(0, 0, 0, 0, 0), ThinLine.NONE);
    }

    private static void drawnAtAllColours() {
        // the ROW has no number at 151, each drawn one has: 10 and 0 by 2
        ThinLine x = with("bends 0; wide 0; gap 150 151", 0, 1000, 299, 1000, 150, 990);
        Due.law(x, "shine 990 if colour = 150; shine 1000");
        Due.due("its own", x.deep(0, 0, 2), 10000);
        Due.due("drawn with all colours", x.drawn(0, 0, 0, 0, 3), 0);
        x.raw(0, 150, 995);
        Due.due("drawn with all colours, as deep", x.drawn(0, 0, 0, 0, 3), 3);
        Due.due("the row has them not", x.count(8), 3);
    }

    private static void bentFromNoneToForty() {
        ThinLine x = with("bends 7; wide 0; gap 200 200", 0, 0, 299, 0, 149, 90, 200, -6);
        // straight: DEEP 6, NOISE 30; by one bend at 149: HEIGHT at 200 is 90 less 90 * 51 by 150, upwards: 59
        Due.due("bent 0", x.bent(0, 0, 0), 200);
        Due.due("bent 1", x.bent(0, 0, 1), 65000);
        Due.due("bent 40", x.bent(0, 0, 40), x.bent(0, 0, 0));
        Due.due("bent as it is", x.bent(0, 0, 7), x.deep(0, 0, 2));
        for (int no : new int[] {-1, 41, Integer.MIN_VALUE, Integer.MAX_VALUE}) Due.due("bent " + no, x.bent(0, 0, no), -2000000000);
        x.raw(0, 200, NOTHING);
        for (int bends : new int[] {0, 1, 40}) Due.due("bent without a deep", x.bent(0, 0, bends), NO_SCORE);
        // a CURVE by one bend alone
        x = with("bends 7; wide 0; gap 200 200", 149, 0, 200, -6);
        Due.due("bent without a curve", x.bent(0, 0, 0), NO_SCORE);
        Due.due("bent, and there is a curve", x.bent(0, 0, 1), 6000);
    }

    private static void costDownwards() {
        int[][] due = {{0, 0}, {31, 0}, {32, 1}, {44, 1}, {45, 2}, {-31, 0}, {-32, 1}, {100000, 10000000}};
        for (int[] d : due) {
            // COLOUR 1 is near no KNOT but the first
            ThinLine x = with("wide 0; gap 150 150", 0, 0, 299, 0, 1, d[0]);
            Due.due("cost of " + d[0] + " squared", x.best(0, 0, 0, 1), d[1]);
            Due.due("bends of " + d[0] + " squared", x.best(0, 0, 0, 0), 0);
        }
        // squares are together first: 31 * 31 and 6 * 6 and 1 and 1 and 1 are a thousand
        Due.due("cost together", with("wide 0; gap 150 150", 0, 0, 299, 0, 1, 31, 2, 6, 3, 1, 4, 1, 5, 1).best(0, 0, 0, 1), 1);
        Due.due("cost together, one less", with("wide 0; gap 150 150", 0, 0, 299, 0, 1, 31, 2, 6, 3, 1, 4, 1).best(0, 0, 0, 1), 0);
        // both are a hundred away from their KNOT's height, the first COLOUR, too
        Due.due("cost of the first colour", with("wide 1; gap 150 150", 0, 0, 1, 200).best(0, 0, 0, 1), 20);
        Due.due("cost of the last colour", with("wide 1; gap 150 150", 299, 0, 298, 200).best(0, 0, 0, 1), 20);
        Due.due("the gap costs nothing", with("wide 0; gap 150 150", 0, 0, 299, 0, 150, 9999).best(0, 0, 0, 1), 0);
    }

    private static void bestOfSeveral() {
        // by one bend, 3, 5 and so on there is a KNOT at 149; without it the COST is 100 * 100 by 1000
        ThinLine x = with("wide 0; gap 200 200", 0, 0, 299, 0, 149, 100);
        int[][] due = {{0, 1, 0}, {1, 1, 1}, {9, 1, 9}, {10, 0, 10}, {11, 0, 10}, {99999, 0, 10}};
        for (int[] d : due) {
            Due.due("best by " + d[0], x.best(0, 0, d[0], 0), d[1]);
            Due.due("cost by " + d[0], x.best(0, 0, d[0], 1), d[2]);
        }
        for (int no : new int[] {-1, 100000, Integer.MIN_VALUE, Integer.MAX_VALUE}) Due.due("best by " + no, x.best(0, 0, no, 0), ThinLine.NONE);
        Due.due("its own bends are as they were", x.deep(0, 0, 3), 2);
    }

    private static void bestOfForty() {
        // KNOTS at 7, 14 and 21 together have forty bends alone
        ThinLine x = with("wide 0; gap 200 200", 0, 0, 299, 0, 7, 90000, 14, -90000, 21, 90000);
        Due.due("forty bends", x.best(0, 0, 0, 0), 40);
        Due.due("what forty bends cost", x.best(0, 0, 1, 1), 40);
    }

    private static void bestWithoutCurves() {
        // COLOUR 97 is a KNOT of 39 bends alone, 7 one of 37 to 40
        ThinLine x = with("wide 0; gap 200 200", 97, 5);
        Due.due("no curve by its own bends", x.deep(0, 0, 3), 0);
        Due.due("39 bends alone", x.best(0, 0, 99999, 0), 39);
        Due.due("what they cost", x.best(0, 0, 99999, 1), 39 * 99999);
        x.raw(0, 97, NOTHING);
        x.raw(0, 7, 5);
        Due.due("37 bends and more", x.best(0, 0, 99999, 0), 37);
        Due.due("37 bends and more, for nothing", x.best(0, 0, 0, 0), 37);
        x.raw(0, 7, NOTHING);
        Due.due("no curve by any", x.best(0, 0, 0, 0), -2);
        Due.due("no cost by any", x.best(0, 0, 0, 1), -2);
        x.raw(0, 1, 5);
        Due.due("used, but near no knot", x.best(0, 0, 0, 0), -2);
        Due.due("in no order, and no curve", x.best(0, 0, -1, 0), ThinLine.NONE);
    }

    private static void takenDownwards() {
        int[][] due = {
            // d, w, TAKEN: what is put in at 149, which is the only KNOT
            {1, 1, 0}, {9999, 1, 0}, {1, 2, 0}, {2, 2, 1}, {3, 2, 1}, {9999, 2, 4999}, {1, 99, 0}, {2, 99, 1}, {9999, 99, 9898}, {9998, 99, 9897}};
        for (int[] d : due) {
            ThinLine x = with("bends 1; wide 0; gap 150 150", 149, 1000, 150, 900);
            Due.due("taken of " + d[0] + " deep and " + d[1] + " wide", x.taken(0, 0, d[0], d[1]), d[2]);
            Due.due("read as it was", x.read(0, 150), 900);
        }
        ThinLine x = with("bends 1; wide 0; gap 150 150", 149, 1000, 150, 900);
        int[][] wrong = {{0, 1}, {10000, 1}, {-1, 1}, {1, 0}, {1, 100}, {1, -1}, {Integer.MIN_VALUE, 1}, {1, Integer.MAX_VALUE}};
        for (int[] w : wrong) Due.due("taken of " + w[0] + " and " + w[1], x.taken(0, 0, w[0], w[1]), -2000000);
        // means downwards: 3 put in at one of two is 1, but DEEP of -1 in all is 0, and of -4 it is 2
        x = with("bends 1; wide 0; gap 150 151", 149, 0, 150, 0, 151, -1);
        Due.due("taken: less than nothing", x.taken(0, 0, 3, 1), -1);
        x.raw(0, 151, 0);
        Due.due("taken: nothing", x.taken(0, 0, 3, 1), 0);
        x.raw(0, 150, NOTHING);
        x.raw(0, 151, NOTHING);
        Due.due("taken: no deep", x.taken(0, 0, 3, 1), NOTHING);
    }

    private static void takenNearerThanWide() {
        // the KNOT is ten away from the middle
        int[][] due = {{9, 0}, {10, 0}, {11, 1}, {12, 1}, {20, 5}};
        for (int[] d : due) {
            ThinLine x = with("bends 1; wide 0; gap 159 159", 149, 0, 159, 0);
            Due.due("taken by a knot ten away, " + d[0] + " wide", x.taken(0, 0, 11, d[0]), d[1]);
        }
        // ten away on the other side
        int[][] other = {{10, 0}, {11, 1}};
        for (int[] d : other) {
            ThinLine x = with("bends 1; wide 0; gap 139 139", 149, 0, 139, 0);
            Due.due("taken by a knot ten behind, " + d[0] + " wide", x.taken(0, 0, 11, d[0]), d[1]);
        }
        // the KNOT is the first COLOUR, or the last
        Due.due("taken by the first", with("bends 0; wide 0; gap 1 1", 0, 0, 1, 0).taken(0, 0, 10, 2), 5);
        Due.due("taken by the last", with("bends 0; wide 0; gap 298 298", 299, 0, 298, 0).taken(0, 0, 10, 2), 5);
        // at the ends of all COLOURS
        Due.due("taken at the first", with("bends 0; wide 0; gap 0 0", 0, 0, 299, 0).taken(0, 0, 9999, 99), 0);
        Due.due("taken at the last", with("bends 0; wide 0; gap 299 299", 0, 0, 299, 0).taken(0, 0, 9999, 99), 0);
        // all COLOURS of the gap with a number are in the mean, those that are too far, too: 9 by 3
        ThinLine x = with("bends 1; wide 0; gap 160 170", 149, 0, 160, 0, 165, 0, 170, 0);
        Due.due("taken of a mean", x.taken(0, 0, 9, 1), 0);
        x.raw(0, 149, 100);
        x.raw(0, 160, 99);
        x.raw(0, 165, 100);
        x.raw(0, 170, 100);
        // DEEP of -1 by 3 is 0, of -9 and -1 by 3 it is 3: put in were 3
        Due.due("taken of a mean, downwards", x.taken(0, 0, 9, 1), 0);
        Due.due("taken of a mean, more", x.taken(0, 0, 8, 1), 2 - 3);
    }

    private static void takenAtTheMiddle() {
        // 150 and 153: the middle is 151, so 149 and 153 are both two away
        ThinLine x = with("bends 1; wide 0; gap 150 153", 149, 0, 153, 0);
        Due.due("the middle, downwards", x.taken(0, 0, 9, 3), 3);
        // 150 and 154: the middle is 152, 149 is three away and 153 one
        x = with("bends 1; wide 0; gap 150 154", 149, 0, 153, 0);
        Due.due("the middle", x.taken(0, 0, 9, 3), 0);
        Due.due("the middle, wider", x.taken(0, 0, 8, 4), 6 - (6 - 2));
    }

    private static void apartByABar() {
        ThinLine x = with("bends 0; wide 0; gap 150 150", 0, 0, 299, 0, 150, -6, 160, 0);
        Due.curve(x, "bends 0; wide 0; gap 160 160");
        // by the one 6000; by the other 0, for its NOISE is 2
        int[][] due = {{6001, 0}, {6000, 1}, {5999, 1}, {1, 1}, {0, 0}, {-1, 0}, {999999, 0}, {-999999, 0}};
        for (int[] d : due) {
            Due.due("apart by " + d[0], x.apart(0, 1, d[0]), d[1]);
            Due.due("apart the other way by " + d[0], x.apart(1, 0, d[0]), d[1]);
        }
        // DEEP 999 and 1000 with a NOISE of 1 are beside the greatest bar
        x.raw(0, 150, -999);
        Due.due("apart: below the greatest bar", x.apart(0, 1, 999999), 0);
        x.raw(0, 150, -1000);
        Due.due("apart: above the greatest bar", x.apart(0, 1, 999999), 1);
        x.raw(0, 150, 999);
        Due.due("apart: above the least bar", x.apart(0, 1, -999999), 0);
        x.raw(0, 150, 1000);
        Due.due("apart: below the least bar", x.apart(0, 1, -999999), 1);
    }

    private static void apartWithoutScores() {
        ThinLine x = with("bends 0; wide 0; gap 150 150", 0, 0, 299, 0, 150, 0);
        Due.curve(x, "bends 0; wide 0; gap 160 160");
        Due.due("apart: one has no score", x.apart(0, 1, -999999), 1);
        x.raw(0, 150, NOTHING);
        Due.due("apart: none has a score", x.apart(0, 1, -999999), 0);
        Due.due("apart: no such row", x.apart(0, 2, 0), ThinLine.NONE);
        ThinLine none = new ThinLine();
        Due.curve(none, "wide 3");
        Due.curve(none, "wide 3");
        Due.due("apart: no rows", none.apart(0, 1, 0), 0);
        for (int i = 0; i < 24; i++) {
            int row = none.row(0, 0);
            none.raw(row, 0, 0);
            if (i >= 1) none.raw(row, 150, 0);
        }
        Due.curve(none, "gap 100 100");
        Due.due("apart: of all rows but one", none.apart(0, 2, -999999), 23);
    }
}
