/** Promises 40 to 43: what is told of the WEEK's weather, and the WAYS by which a need is given. */
public final class WaysTest {
    public static void main(String[] args) {
        toldAndGiven();
        brief();
        fewest();
        fewestOfSeveral();
        Due.end();
    }

    private static void toldAndGiven() {
        ThinLine x = new ThinLine();
        String[] words = {"light", "heat", "storm", "fall"};
        for (int what = 0; what < 4; what++) {
            Due.way(x, "gives " + words[what]);
            Due.due(words[what] + " at first", x.gives(what), 0);
            x.told(what, 11 * (what + 1));
        }
        for (int what = 0; what < 4; what++) Due.due(words[what] + " as told", x.gives(what), 11 * (what + 1));
        Due.way(x, "gives week");
        x.clock(77);
        Due.due("week is now", x.gives(4), 77);
    }

    private static void brief() {
        ThinLine x = new ThinLine();
        Due.due("brief: without ways", x.brief(999999999), 999999999);
        Due.way(x, "gives 30");
        Due.way(x, "gives 12");
        Due.due("brief: some", x.brief(50), 8);
        Due.due("brief: just none", x.brief(42), 0);
        Due.due("brief: 0 at least", x.brief(0), 0);
        Due.due("brief: below", x.brief(-1), ThinLine.NONE);
        Due.due("brief: above", x.brief(1000000000), ThinLine.NONE);
        for (int i = 0; i < 6; i++) Due.way(x, "gives 99999 * 99999");
        Due.due("brief: of the most", x.brief(999999999), 999999999 - 42 - 6 * 99999999);
    }

    private static void fewest() {
        ThinLine x = new ThinLine();
        Due.due("fewest: none needed", x.fewest(0, 0), 0);
        Due.due("fewest: none needed, the set", x.fewest(0, 1), 0);
        Due.due("fewest: without ways", x.fewest(1, 0), -2);
        Due.way(x, "gives 10");
        Due.way(x, "gives light");
        Due.way(x, "gives 25");
        int[][] due = {{0, 0, 0}, {1, 1, 4}, {25, 1, 4}, {26, 2, 5}, {35, 2, 5}, {36, -2, -2}};
        for (int[] d : due) {
            Due.due("fewest for " + d[0], x.fewest(d[0], 0), d[1]);
            Due.due("fewest for " + d[0] + ": the set", x.fewest(d[0], 1), d[2]);
        }
        x.told(0, 1);
        Due.due("fewest: all", x.fewest(36, 0), 3);
        Due.due("fewest: all, the set", x.fewest(36, 1), 7);
        int[][] wrong = {{-1, 0}, {1000000000, 0}, {0, -1}, {0, 2}};
        for (int[] w : wrong) Due.due("fewest: not as told", x.fewest(w[0], w[1]), ThinLine.NONE);
    }

    private static void fewestOfSeveral() {
        ThinLine x = new ThinLine();
        for (int n : new int[] {5, 9, 7, 9, 0, 9, 1, 2}) Due.way(x, "gives " + n);
        Due.due("fewest: that which gives most", x.fewest(6, 1), 2);
        Due.due("fewest: then the least number", x.fewest(11, 1), 2 + 8);
        Due.due("fewest: three", x.fewest(27, 1), 2 + 8 + 32);
        Due.due("fewest: how many for more", x.fewest(28, 0), 4);
        Due.due("fewest: most of four", x.fewest(28, 1), 2 + 8 + 32 + 4);
    }
}
