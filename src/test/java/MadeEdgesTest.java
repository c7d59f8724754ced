/** Terms, part I: what SUMS and TESTS are worth where they go round or divide, and numbers MADE by a LAW (promises 12 and 41). */
public final class MadeEdgesTest {
    private static final int NOTHING = -1000000;

    public static void main(String[] args) {
        towardsZero();
        zeroByZero();
        goesRound();
        testsGoRound();
        words();
        fromAndTo();
        theFirstShine();
        shineIsHeld();
        eatsDownwards();
        eatsByLines();
        heldAtLast();
        rippleOfTwo();
        rippleOfNinetyNine();
        rippleOfFive();
        rippleDownwards();
        noiseAtItsBounds();
        seeds();
        xGoesOn();
        Due.end();
    }

    /** RAW at a COLOUR of a ROW of GLASS 3 in HOUR 999 as it is MADE by a LAW. */
    private static int made(String law, int seed, int colour) {
        ThinLine x = new ThinLine();
        x.row(3, 999);
        Due.law(x, law);
        x.make(0, 0, seed, colour, colour);
        return x.read(0, colour);
    }

    private static void worth(String sum, int due) {
        Due.due("shine " + sum, made("shine " + sum, 0, 7), due);
    }

    /** 2 to the 63rd, below 0. */
    private static final String LEAST = "65536*65536*65536*32768";

    private static void towardsZero() {
        worth("6 / 3", 2);
        worth("5 / 3", 1);
        worth("3 / 3", 1);
        worth("2 / 3", 0);
        worth("0 / 3", 0);
        worth("0 - 5 / 3", -1);
        worth("99999 / 99999", 1);
        worth("99998 / 99999", 0);
        // a TERM below 0 comes by going round alone: -9223372036854775808 by 65536 by 65536 by 65536 is -32768
        String below = LEAST + "/65536/65536/65536";
        worth(below, -32768);
        worth(below + "/32767", -1);
        worth(below + "/32768", -1);
        worth(below + "/32769", 0);
        worth(below + "/3", -10922);
        worth(below + "/3*3", -32766);
        worth(below + "/5", -6553);
    }

    private static void zeroByZero() {
        worth("5 / 0", 0);
        worth("0 / 0", 0);
        worth("5 / 0 + 7", 7);
        worth("7 + 5 / 0 * 3", 7);
        worth("9 / row", 0);
        worth("9 / row / row", 0);
        worth(LEAST + " / 0", 0);
        worth("9 / 1", 9);
        Due.due("shine 8 / colour at 0", made("shine 8 / colour", 0, 0), 0);
        Due.due("shine 8 / colour at 1", made("shine 8 / colour", 0, 1), 8);
        Due.due("a test by 0", made("shine 3 if 1 / 0 = 0; shine 4", 0, 0), 3);
    }

    private static void goesRound() {
        worth(LEAST, -50000);
        worth(LEAST + " - 1", 50000);
        worth(LEAST + " + " + LEAST, 0);
        worth(LEAST + " - " + LEAST, 0);
        worth("0 - " + LEAST, -50000);
        worth("65536*65536*65536*65536", 0);
        worth("65536*65536*65536*65536 + 5", 5);
        worth("65536*65536*65536*32767", 50000);
        worth("4096*65536*65536*65536*2", 50000);
        worth("8192*65536*65536*65536*2*2", -50000);
        worth("8192*65536*65536*65536*2*2*2", 0);
        ThinLine x = new ThinLine();
        // SUMS of several CLAUSES go round together: the most there is, and one
        Due.way(x, "gives " + LEAST + " - 1; gives 1");
        Due.way(x, "gives " + LEAST + " - 1; gives 0");
        Due.way(x, "gives " + LEAST + "; gives " + LEAST + "; gives 9");
        Due.due("round, and below 0", x.gives(0), 0);
        Due.due("not round", x.gives(1), 99999999);
        Due.due("round twice", x.gives(2), 9);
    }

    private static void testsGoRound() {
        Due.due("the least is below 0", made("shine 1 if " + LEAST + " < 0; shine 2", 0, 0), 1);
        Due.due("one less than the least is not", made("shine 1 if " + LEAST + " - 1 < 0; shine 2", 0, 0), 2);
        Due.due("the least is below the most", made("shine 1 if " + LEAST + " < " + LEAST + " - 1; shine 2", 0, 0), 1);
        Due.due("the most is above the least", made("shine 1 if " + LEAST + " - 1 > " + LEAST + "; shine 2", 0, 0), 1);
        Due.due("the least is itself", made("shine 1 if " + LEAST + " = " + LEAST + "; shine 2", 0, 0), 1);
        String[] signs = {"<", "<=", "=", ">=", ">"};
        int[][] holds = {{1, 0, 0}, {1, 1, 0}, {0, 1, 0}, {0, 1, 1}, {0, 0, 1}};
        for (int s = 0; s < 5; s++) {
            for (int a = 4; a <= 6; a++) {
                Due.due(a + signs[s] + "5", made("shine 1 if " + a + signs[s] + "5; shine 0", 0, 0), holds[s][a - 4]);
            }
        }
    }

    private static void words() {
        worth("colour", 7);
        worth("glass", 3);
        worth("hour", 999);
        worth("row", 0);
        for (int colour : new int[] {0, 299}) Due.due("colour", made("shine colour", 0, colour), colour);
        ThinLine x = new ThinLine();
        Due.law(x, "shine row * 10 + glass");
        for (int i = 0; i < 24; i++) x.row(i % 4, 0);
        for (int i = 0; i < 24; i++) {
            x.make(0, i, 0, 0, 0);
            Due.due("row " + i, x.read(i, 0), i * 10 + i % 4);
        }
        ThinLine y = new ThinLine();
        Due.way(y, "gives week");
        for (int week : new int[] {0, 1, 398, 399, 400}) {
            y.clock(week);
            Due.due("week", y.gives(0), Math.min(399, week));
        }
    }

    private static void fromAndTo() {
        int[][] spans = {{0, 0}, {299, 299}, {0, 299}, {100, 101}, {298, 299}};
        for (int[] s : spans) {
            ThinLine x = new ThinLine();
            Due.law(x, "shine 5");
            x.row(0, 0);
            x.row(0, 0);
            Due.due("make: how many", x.make(0, 1, 0, s[0], s[1]), s[1] - s[0] + 1);
            Due.due("make: so many numbers", x.count(8), s[1] - s[0] + 1);
            Due.due("make: the first", x.read(1, s[0]), 5);
            Due.due("make: the last", x.read(1, s[1]), 5);
            if (s[0] > 0) Due.due("make: none ahead", x.read(1, s[0] - 1), NOTHING);
            if (s[1] < 299) Due.due("make: none behind", x.read(1, s[1] + 1), NOTHING);
            Due.due("make: from above to", x.make(0, 1, 0, s[1], s[0]), s[0] == s[1] ? 1 : ThinLine.NONE);
        }
    }

    private static void theFirstShine() {
        Due.due("0 without", made("noise 0", 0, 0), 0);
        Due.due("none holds", made("shine 7 if 1 > 2; shine 8 if 1 > 2", 0, 0), 0);
        Due.due("the first without a test", made("shine 7; shine 8", 0, 0), 7);
        Due.due("the first whose test holds", made("shine 7 if 1 > 2; shine 8 if 1 < 2; shine 9", 0, 0), 8);
        Due.due("without a test at last", made("shine 7 if 1 > 2; shine 8 if 1 > 2; shine 9", 0, 0), 9);
        Due.due("others between", made("noise 0; shine 7 if 1 > 2; eats 0 5; shine 8", 0, 0), 8);
        for (int colour = 99; colour <= 101; colour++) {
            Due.due("by colour " + colour, made("shine 1 if colour < 100; shine 2 if colour = 100; shine 3", 0, colour), colour - 98);
        }
    }

    private static void shineIsHeld() {
        worth("49999", 49999);
        worth("50000", 50000);
        worth("50001", 50000);
        worth("99999", 50000);
        worth("0 - 49999", -49999);
        worth("0 - 50000", -50000);
        worth("0 - 50001", -50000);
        // held ahead of what is eaten, and of ripple and noise
        Due.due("ripple behind", made("shine 60000; ripple 2 10", 0, 1), 50000 + 10 - 5);
        Due.due("ripple behind, below", made("shine 0 - 60000; ripple 2 10", 0, 0), -50000 - 5);
    }

    private static int eaten(int amount, int depth) {
        ThinLine x = new ThinLine();
        x.row(0, 0);
        x.line(11, 299, depth);
        Due.law(x, "eats 11 " + amount);
        x.make(0, 0, 0, 299, 299);
        return -x.read(0, 299);
    }

    private static void eatsDownwards() {
        int[][] due = {
            // amount, depth, what is eaten
            {0, 1, 0}, {0, 1000, 0}, {1, 1, 0}, {1, 999, 0}, {1, 1000, 1}, {999, 1, 0}, {1000, 1, 1}, {1001, 1, 1}, {1999, 1, 1}, {2000, 1, 2},
            {9999, 1, 9}, {9999, 999, 9989}, {9999, 1000, 9999}, {37, 27, 0}, {37, 28, 1}};
        for (int[] d : due) Due.due("eats " + d[0] + " of " + d[1], eaten(d[0], d[1]), d[2]);
    }

    private static void eatsByLines() {
        ThinLine x = new ThinLine();
        x.row(0, 0);
        Due.law(x, "shine 5000; eats 0 1500; eats 0 1; eats 11 1000; eats 5 9999");
        x.line(0, 100, 1);
        x.line(0, 101, 3);
        x.line(11, 101, 7);
        x.line(10, 101, 1000);
        x.make(0, 0, 0, 0, 299);
        // each CLAUSE downwards by itself: 1.5 is 1, 4.5 is 4
        int[][] due = {{99, 5000}, {100, 4999}, {101, 5000 - 4 - 7}, {102, 5000}};
        for (int[] d : due) Due.due("eaten at " + d[0], x.read(0, d[0]), d[1]);
        // a LINE that comes later eats when it is MADE again
        x.line(5, 102, 1000);
        Due.due("as it was made", x.read(0, 102), 5000);
        x.make(0, 0, 0, 102, 102);
        Due.due("made again", x.read(0, 102), 5000 - 9999);
    }

    private static void heldAtLast() {
        int[][] due = {{4, -99999}, {5, -100000}, {6, -100000}, {7, -100000}, {9999, -100000}};
        for (int[] d : due) {
            ThinLine x = new ThinLine();
            x.row(0, 0);
            x.line(0, 5, 1000);
            Due.law(x, "shine 0 - 50000; eats 0 9999; eats 0 9999; eats 0 9999; eats 0 9999; eats 0 9999; eats 0 " + d[0]);
            x.make(0, 0, 0, 5, 5);
            Due.due("held: " + d[0] + " more", x.read(0, 5), d[1]);
        }
        // held when all is together: noise and ripple come before
        ThinLine x = new ThinLine();
        x.row(0, 0);
        x.line(0, 1, 1000);
        Due.law(x, "shine 0 - 50000; eats 0 9999; eats 0 9999; eats 0 9999; eats 0 9999; eats 0 9999; eats 0 4005; ripple 2 8000");
        x.make(0, 0, 0, 1, 1);
        Due.due("held behind the ripple", x.read(0, 1), -100000);
        Due.due("as much as can be", made("shine 50000; ripple 2 9999; noise 9999", 0, 1) <= 50000 + 5000 + 9999, true);
    }

    private static void ripple(int p, int h, int colour, int due) {
        Due.due("ripple " + p + " " + h + " at " + colour, made("ripple " + p + " " + h, 0, colour), due);
    }

    private static void rippleOfTwo() {
        for (int colour : new int[] {0, 2, 298}) {
            ripple(2, 0, colour, 0);
            ripple(2, 1, colour, 0);
            ripple(2, 2, colour, -1);
            ripple(2, 9999, colour, -4999);
        }
        for (int colour : new int[] {1, 3, 299}) {
            ripple(2, 0, colour, 0);
            ripple(2, 1, colour, 1);
            ripple(2, 2, colour, 1);
            ripple(2, 9999, colour, 9999 - 4999);
        }
    }

    private static void rippleOfNinetyNine() {
        // 49 and 50 are as far from a wave's end
        int[][] due = {{0, 0}, {1, 20}, {49, 989}, {50, 989}, {98, 20}, {99, 0}, {100, 20}, {198, 0}, {297, 0}, {298, 20}, {299, 40}};
        for (int[] d : due) ripple(99, 1000, d[0], d[1] - 500);
    }

    private static void rippleOfFive() {
        // 2 * 101 * 0, 1, 2, 2, 1 by 5: 0, 40, 80, 80, 40, less 50
        int[] due = {-50, -10, 30, 30, -10};
        for (int colour = 0; colour < 12; colour++) ripple(5, 101, colour, due[colour % 5]);
        for (int colour = 295; colour < 300; colour++) ripple(5, 101, colour, due[colour % 5]);
    }

    private static void rippleDownwards() {
        // 2 * h by 3: 0, 1, 2, 2 for h 1 to 4 is 0.67, 1.33, 2, 2.67
        int[][] due = {{0, 0, 0}, {1, 0, 0}, {2, -1, 0}, {3, -1, 1}, {4, -2, 0}, {5, -2, 1}};
        for (int[] d : due) {
            ripple(3, d[0], 0, d[1]);
            ripple(3, d[0], 1, d[2]);
            ripple(3, d[0], 2, d[2]);
        }
    }

    private static void noiseAtItsBounds() {
        // x becomes 12345 of seed 0, and that by 65536 is 0; 16838 of seed 1
        Due.due("noise 0", made("shine 100; noise 0", 1, 0), 100);
        Due.due("no noise", made("shine 100", 1, 0), 100);
        Due.due("noise 1 of seed 0", made("shine 100; noise 1", 0, 0), 99);
        Due.due("noise 1 of seed 1", made("shine 100; noise 1", 1, 0), 100 + 16838 % 3 - 1);
        Due.due("noise 9999 of seed 0", made("shine 100; noise 9999", 0, 0), 100 - 9999);
        Due.due("noise 9999 of seed 1", made("shine 100; noise 9999", 1, 0), 100 + 16838 - 9999);
        Due.due("noise 8418 of seed 1", made("noise 8418", 1, 0), 16838 % 16837 - 8418);
        Due.due("noise 8419 of seed 1", made("noise 8419", 1, 0), 16838 - 8419);
        boolean least = false;
        boolean most = false;
        for (int seed = 0; seed < 200; seed++) {
            int n = made("noise 1", seed, 0);
            Due.due("noise 1 is -1, 0 or 1", n >= -1 && n <= 1, true);
            least |= n == -1;
            most |= n == 1;
        }
        Due.due("noise: down to -1", least, true);
        Due.due("noise: up to 1", most, true);
    }

    private static void seeds() {
        int[] seeds = {0, 1, 2, 65535, 65536, 1073741823, 1073741824, 2147483646, 2147483647};
        for (int seed : seeds) {
            java.math.BigInteger x = java.math.BigInteger.valueOf(seed).multiply(java.math.BigInteger.valueOf(1103515245L))
                .add(java.math.BigInteger.valueOf(12345)).mod(java.math.BigInteger.valueOf(2147483648L));
            Due.due("seed " + seed, made("noise 9999", seed, 0), x.longValue() / 65536 % 19999 - 9999);
        }
        // worked out: 1043980748 by 65536 is 15929
        Due.due("the greatest seed", made("noise 9999", 2147483647, 0), 15929 - 9999);
        ThinLine x = new ThinLine();
        x.row(0, 0);
        Due.law(x, "noise 9");
        for (int no : new int[] {-1, Integer.MIN_VALUE}) Due.due("seed " + no, x.make(0, 0, no, 0, 0), ThinLine.NONE);
        Due.due("nothing came", x.count(8), 0);
    }

    private static void xGoesOn() {
        ThinLine x = new ThinLine();
        x.row(0, 0);
        x.row(0, 0);
        Due.law(x, "noise 9999");
        x.make(0, 0, 42, 0, 299);
        long n = 42;
        for (int colour = 0; colour < 300; colour++) {
            n = (n * 1103515245L + 12345) % 2147483648L;
            if (colour % 23 == 0 || colour == 299) Due.due("x at " + colour, x.read(0, colour), n / 65536 % 19999 - 9999);
        }
        // one by one from the first COLOUR that is asked for
        x.make(0, 1, 42, 100, 101);
        Due.due("x begins at from", x.read(1, 100), x.read(0, 0));
        Due.due("and goes on", x.read(1, 101), x.read(0, 1));
        x.make(0, 1, 42, 101, 101);
        Due.due("and begins anew", x.read(1, 101), x.read(0, 0));
    }
}
