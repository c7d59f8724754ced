/** Promises 24 to 27 and 33 to 39: GLASSES beside one another, WEEKS, HOUSES, the odd ROW and CANDIDATES. */
public final class GlassesTest {
    /** DEEP of a ROW is its HOUR, SCORE a thousand times that. */
    private static final String BY_HOUR = "shine 1000 - hour if colour >= 140 and colour <= 159; shine 1000";

    public static void main(String[] args) {
        together();
        lowestTerms();
        hour();
        said();
        weeks();
        house();
        says();
        agreed();
        alone();
        odd();
        candidate();
        next();
        nextOfSeveral();
        Due.end();
    }

    /** A new object with that LAW and the CURVE without CLAUSES that matter. */
    private static ThinLine byHour() {
        ThinLine x = new ThinLine();
        Due.law(x, BY_HOUR);
        Due.curve(x, "wide 3");
        return x;
    }

    private static int row(ThinLine x, int week, int glass, int deep) {
        x.clock(week);
        int row = x.row(glass, deep);
        x.make(0, row, 0, 0, 299);
        return row;
    }

    private static void together() {
        ThinLine x = byHour();
        row(x, 0, 0, 10);
        row(x, 5, 1, 21);
        row(x, 5, 0, 33);
        row(x, 9, 3, 100);
        x.row(0, 7);
        int[][] due = {
            // glasses, week, above, below, rows
            {1, 0, 10, 1, 1}, {1, 4, 10, 1, 1}, {1, 5, 43, 2, 2}, {3, 5, 64, 3, 3}, {15, 9, 41, 1, 4}, {15, 399, 41, 1, 4},
            {8, 8, 0, 0, 0}, {8, 9, 100, 1, 1}, {4, 399, 0, 0, 0}, {2, 399, 21, 1, 1}};
        for (int[] d : due) {
            for (int part = 0; part < 3; part++) {
                Due.due("together of " + d[0] + " in " + d[1] + ": " + part, x.together(0, d[0], d[1], part), d[2 + part]);
            }
        }
        int[][] wrong = {{-1, 1, 0, 0}, {1, 1, 0, 0}, {0, 0, 0, 0}, {0, 16, 0, 0}, {0, 1, -1, 0}, {0, 1, 400, 0}, {0, 1, 0, -1}, {0, 1, 0, 3}};
        for (int[] w : wrong) Due.due("together: not as told", x.together(w[0], w[1], w[2], w[3]), -2000000000);
    }

    private static void lowestTerms() {
        ThinLine x = byHour();
        row(x, 0, 0, 0);
        row(x, 0, 0, 0);
        Due.due("together: 0 by 1, above", x.together(0, 1, 0, 0), 0);
        Due.due("together: 0 by 1, below", x.together(0, 1, 0, 1), 1);
        Due.due("together: two rows", x.together(0, 1, 0, 2), 2);
        x.slip(0, 140, 159, -3);
        row(x, 0, 0, 2);
        row(x, 0, 0, 0);
        Due.due("together: below 0, above the line", x.together(0, 1, 0, 0), -5);
        Due.due("together: below 0, below the line", x.together(0, 1, 0, 1), 2);
    }

    private static void hour() {
        ThinLine x = byHour();
        // DEEP by HOUR is alike in one HOUR, so SLIPS make it unlike
        row(x, 0, 0, 10);
        row(x, 2, 1, 10);
        row(x, 4, 1, 10);
        row(x, 6, 2, 10);
        row(x, 6, 3, 11);
        x.row(3, 10);
        x.slip(1, 140, 159, 5);
        x.slip(2, 140, 159, -2);
        int[][] due = {{0, 0, 0}, {1, 0, 0}, {2, 1, 5}, {3, 1, 5}, {4, 2, 10}, {6, 5, 10 + 2 + 7 + 7}, {399, 5, 26}};
        for (int[] d : due) {
            Due.due("hour in " + d[0] + ": how many", x.hour(0, d[0], 0), d[1]);
            Due.due("hour in " + d[0] + ": together", x.hour(0, d[0], 1), d[2]);
        }
        int[][] wrong = {{-1, 0, 0}, {1, 0, 0}, {0, -1, 0}, {0, 400, 0}, {0, 0, -1}, {0, 0, 2}};
        for (int[] w : wrong) Due.due("hour: not as told", x.hour(w[0], w[1], w[2]), ThinLine.NONE);
    }

    private static ThinLine fourGlasses() {
        ThinLine x = byHour();
        row(x, 10, 0, 50);
        row(x, 20, 0, 90);
        row(x, 20, 1, 50);
        row(x, 30, 2, 40);
        row(x, 30, 3, 70);
        x.row(2, 0);
        return x;
    }

    private static void said() {
        ThinLine x = fourGlasses();
        int[][] due = {{9, 50000, 0}, {10, 50000, 1}, {10, 50001, 0}, {19, 50000, 1}, {20, 50000, 2}, {20, 50001, 1}, {29, 50000, 2},
            {30, 50000, 3}, {30, 40000, 4}, {399, -999999, 4}, {399, 999999, 0}, {30, 90000, 1}};
        for (int[] d : due) Due.due("said in " + d[0] + " by " + d[1], x.said(0, d[0], d[1]), d[2]);
        int[][] wrong = {{-1, 0, 0}, {1, 0, 0}, {0, -1, 0}, {0, 400, 0}, {0, 0, 1000000}, {0, 0, -1000000}};
        for (int[] w : wrong) Due.due("said: not as told", x.said(w[0], w[1], w[2]), ThinLine.NONE);
    }

    private static void weeks() {
        ThinLine x = fourGlasses();
        int[][] due = {
            // from, to, bar, glasses, first, turns
            {0, 99, 50000, 1, 10, 3}, {0, 99, 50000, 2, 20, 3}, {0, 99, 50000, 3, 30, 3}, {0, 99, 50000, 4, -2, 3},
            {0, 99, 40000, 4, 30, 3}, {0, 9, 50000, 1, -2, 0}, {0, 10, 50000, 1, 10, 1}, {10, 10, 50000, 1, 10, 0},
            {15, 29, 50000, 1, 15, 1}, {20, 30, 50000, 2, 20, 1}, {300, 399, 50000, 3, 300, 0}, {0, 99, 60000, 2, 30, 2}};
        for (int[] d : due) {
            Due.due("weeks from " + d[0] + " to " + d[1] + " by " + d[2] + ": first with " + d[3], x.weeks(0, d[0], d[1], d[2], d[3], 0), d[4]);
            Due.due("weeks from " + d[0] + " to " + d[1] + " by " + d[2] + ": turns", x.weeks(0, d[0], d[1], d[2], d[3], 1), d[5]);
        }
        int[][] wrong = {{-1, 0, 9, 0, 1, 0}, {1, 0, 9, 0, 1, 0}, {0, -1, 9, 0, 1, 0}, {0, 390, 400, 0, 1, 0}, {0, 9, 8, 0, 1, 0},
            {0, 0, 100, 0, 1, 0}, {0, 0, 9, 1000000, 1, 0}, {0, 0, 9, -1000000, 1, 0}, {0, 0, 9, 0, 0, 0}, {0, 0, 9, 0, 5, 0},
            {0, 0, 9, 0, 1, -1}, {0, 0, 9, 0, 1, 2}};
        for (int[] w : wrong) Due.due("weeks: not as told", x.weeks(w[0], w[1], w[2], w[3], w[4], w[5]), ThinLine.NONE);
    }

    private static void house() {
        ThinLine x = byHour();
        int[][] wrong = {{-1, 0, 1}, {1, 0, 1}, {0, 1000000, 1}, {0, -1000000, 1}, {0, 0, 0}, {0, 0, 16}};
        for (int[] w : wrong) Due.due("house: not as told", x.house(w[0], w[1], w[2]), ThinLine.NONE);
        for (int i = 0; i < 8; i++) Due.due("house " + i, x.house(0, i % 2 == 0 ? 999999 : -999999, i % 2 == 0 ? 1 : 15), i);
        Due.due("house 8", x.house(0, 0, 1), ThinLine.NONE);
        Due.due("house: how many", x.count(10), 8);
    }

    private static void says() {
        ThinLine x = fourGlasses();
        x.house(0, 50000, 1);
        x.house(0, 50000, 2);
        x.house(0, 70000, 14);
        x.house(0, 70001, 8);
        Due.curve(x, "gap 10 29");
        x.house(1, 1, 15);
        int[][] due = {{0, 9, 0}, {0, 10, 1}, {1, 10, 0}, {1, 19, 0}, {1, 20, 1}, {2, 29, 0}, {2, 30, 1}, {2, 399, 1}, {3, 399, 0}, {4, 399, 0}};
        for (int[] d : due) Due.due("says " + d[0] + " in " + d[1], x.says(d[0], d[1]), d[2]);
        int[][] wrong = {{-1, 0}, {5, 0}, {0, -1}, {0, 400}};
        for (int[] w : wrong) Due.due("says: not as told", x.says(w[0], w[1]), ThinLine.NONE);
    }

    private static void agreed() {
        ThinLine x = fourGlasses();
        Due.due("agreed: no houses", x.agreed(399), -2);
        x.house(0, 50000, 1);
        Due.due("agreed: the only one", x.agreed(399), 10);
        Due.due("agreed: up to that week", x.agreed(10), 10);
        Due.due("agreed: not up to then", x.agreed(9), -2);
        x.house(0, 50000, 2);
        Due.due("agreed: half is not more than half", x.agreed(19), -2);
        Due.due("agreed: both", x.agreed(399), 20);
        x.house(0, 999999, 15);
        Due.due("agreed: two of three", x.agreed(399), 20);
        x.house(0, 70000, 8);
        Due.due("agreed: three of four", x.agreed(399), 30);
        x.house(0, 999999, 15);
        x.house(0, 999999, 15);
        Due.due("agreed: three of six", x.agreed(399), -2);
        ThinLine early = byHour();
        row(early, 0, 0, 9);
        early.house(0, 1, 1);
        Due.due("agreed: in the first week", early.agreed(0), 0);
        Due.due("agreed: below", x.agreed(-1), ThinLine.NONE);
        Due.due("agreed: above", x.agreed(400), ThinLine.NONE);
    }

    private static void alone() {
        ThinLine x = fourGlasses();
        Due.due("alone: no houses", x.alone(0), -2);
        x.house(0, 999999, 15);
        x.house(0, 50000, 2);
        x.house(0, 50000, 1);
        Due.due("alone: none says so", x.alone(9), -2);
        Due.due("alone: the last house", x.alone(10), 2);
        Due.due("alone: still", x.alone(19), 2);
        Due.due("alone: two of them", x.alone(20), -2);
        Due.due("alone: below", x.alone(-1), ThinLine.NONE);
        Due.due("alone: above", x.alone(400), ThinLine.NONE);
        x = fourGlasses();
        x.house(0, 50000, 1);
        Due.due("alone: there is no other", x.alone(399), 0);
    }

    private static void odd() {
        ThinLine x = byHour();
        row(x, 0, 1, 10);
        row(x, 0, 0, 999);
        row(x, 3, 1, 20);
        x.row(1, 500);
        Due.due("odd: two", x.odd(0, 1), -2);
        row(x, 9, 1, 31);
        Due.due("odd: the farthest from 20", x.odd(0, 1), 4);
        row(x, 9, 1, 30);
        // of 10, 20, 30, 31 the middle is 20
        Due.due("odd: the lesser middle", x.odd(0, 1), 4);
        x.raw(4, 140, 969 + 20);
        Due.due("odd: of several the least", x.odd(0, 1), 0);
        x.row(1, 0);
        x.make(0, 6, 0, 0, 299);
        // of 0, 10, 20, 30, 30 the middle is 20
        Due.due("odd: the farthest", x.odd(0, 1), 6);
        Due.due("odd: one row", x.odd(0, 0), -2);
        oddOfMany();
        Due.due("odd: no rows", x.odd(0, 3), -2);
        int[][] wrong = {{-1, 0}, {1, 0}, {0, -1}, {0, 4}};
        for (int[] w : wrong) Due.due("odd: not as told", x.odd(w[0], w[1]), ThinLine.NONE);
    }

    private static void oddOfMany() {
        ThinLine x = byHour();
        // DEEP 0, 10, 20 and so on, the greatest first: the middle is 110, and 230 is the farthest of all
        for (int i = 23; i >= 0; i--) row(x, 0, 2, 10 * i);
        Due.due("odd: of as many as can be", x.odd(0, 2), 0);
        x.slip(2, 140, 159, -5);
        Due.due("odd: all of them less", x.odd(0, 2), 0);
        // without the greatest the middle is 110 of 0 to 220: of several the least
        for (int c = 140; c < 160; c++) x.raw(0, c, -1000000);
        Due.due("odd: of 23", x.odd(0, 2), 1);
    }

    private static void candidate() {
        ThinLine x = new ThinLine();
        int[][] wrong = {{-1, 1}, {4, 1}, {0, 0}, {0, 100}};
        for (int[] w : wrong) Due.due("candidate: not as told", x.candidate(w[0], w[1]), ThinLine.NONE);
        for (int i = 0; i < 10; i++) Due.due("candidate " + i, x.candidate(i % 4, i == 0 ? 1 : 99), i);
        Due.due("candidate 10", x.candidate(0, 1), ThinLine.NONE);
        Due.due("candidate: how many", x.count(7), 10);
    }

    /** A ROW with that NOISE by a straight CURVE. */
    private static void noisy(ThinLine x, int glass, int noise) {
        int row = x.row(glass, 0);
        x.raw(row, 0, 0);
        x.raw(row, 299, 0);
        x.raw(row, 10, 3 * noise);
    }

    private static void next() {
        ThinLine x = new ThinLine();
        Due.curve(x, CurveTest.STRAIGHT);
        Due.due("next: no candidates", x.next(0, 999, 0), 0);
        Due.due("next: no worth", x.next(0, 999, 1), 0);
        noisy(x, 0, 10);
        noisy(x, 1, 3);
        noisy(x, 1, 4);
        x.row(1, 0);
        noisy(x, 2, 7);
        x.candidate(0, 10);
        x.candidate(1, 5);
        x.candidate(2, 7);
        x.candidate(3, 1);
        // WORTH: 10000000 by 10, 5000000 by 3, 7000000 by 7, and 0
        int[][] due = {{0, 0, 0}, {4, 0, 0}, {5, 2, 1666666}, {7, 2, 1666666}, {11, 2, 1666666}, {12, 6, 2666666}, {15, 6, 2666666},
            {22, 7, 3666666}, {999, 7, 3666666}};
        for (int[] d : due) {
            Due.due("next for " + d[0] + ": the set", x.next(0, d[0], 0), d[1]);
            Due.due("next for " + d[0] + ": its worth", x.next(0, d[0], 1), d[2]);
        }
        int[][] wrong = {{-1, 0, 0}, {1, 0, 0}, {0, -1, 0}, {0, 1000, 0}, {0, 0, -1}, {0, 0, 2}};
        for (int[] w : wrong) Due.due("next: not as told", x.next(w[0], w[1], w[2]), ThinLine.NONE);
    }

    private static void nextOfSeveral() {
        ThinLine x = new ThinLine();
        Due.curve(x, CurveTest.STRAIGHT);
        noisy(x, 0, 10);
        noisy(x, 1, 5);
        x.candidate(0, 20);
        Due.due("next: the only one", x.next(0, 20, 0), 1);
        x.candidate(1, 10);
        x.candidate(1, 10);
        x.candidate(0, 20);
        Due.due("next: of several the fewest hours", x.next(0, 20, 0), 6);
        Due.due("next: one of them, the fewest hours", x.next(0, 19, 0), 2);
        Due.due("next: then the least number", x.next(0, 40, 0), 7);
    }
}
