import java.nio.charset.StandardCharsets;
import java.util.ArrayList;
import java.util.List;

/**
 * An object that holds some of all there is, and the questions by which two such objects can be told apart. Filling and
 * asking together stay below the 512 calls of one object.
 */
final class Filled {
    static final int ROWS = 5;
    static final int SLIPS = 3;
    static final int LINES = 6;
    static final int LAWS = 2;
    static final int CURVES = 3;
    static final int WAYS = 3;
    static final int HOUSES = 3;
    static final int CANDIDATES = 3;
    static final int NOW = 9;
    static final String TAPE = "gives 12 + week";

    private Filled() {
    }

    private static void feed(Object x, String text) {
        byte[] bytes = text.getBytes(StandardCharsets.ISO_8859_1);
        for (int at = 0; at < bytes.length; at += 20) {
            Calls.call(x, "feed", Due.four(bytes, at), Due.four(bytes, at + 4), Due.four(bytes, at + 8), Due.four(bytes, at + 12),
                Due.four(bytes, at + 16));
        }
        Calls.call(x, "end", bytes.length);
    }

    private static void text(Object x, int sort, String text) {
        feed(x, text);
        Calls.call(x, "text", sort);
    }

    /** Fills a new ThinLine, or a new Model. */
    static <T> T fill(T x) {
        text(x, 0, "shine 1000 - hour if colour >= 140 and colour <= 159; shine 1000");
        text(x, 0, "shine 900 + colour; noise 20; ripple 7 30; eats 2 500");
        text(x, 1, "wide 3");
        text(x, 1, "bends 3; wide 5; gap 100 109; skip colour < 5");
        text(x, 1, "bends 0; wide 9; gap 140 159");
        text(x, 2, "gives light + 10");
        text(x, 2, "gives heat * week if storm > 2");
        text(x, 2, "gives fall");
        int[][] lines = {{2, 150, 500}, {2, 20, 100}, {3, 151, 40}, {0, 20, 7}, {3, 105, 9}, {3, 299, 1000}};
        for (int[] l : lines) Calls.call(x, "line", l);
        int[][] rows = {{3, 0, 10}, {7, 1, 10}, {7, 0, 40}, {9, 0, 25}, {9, 2, 70}};
        for (int i = 0; i < rows.length; i++) {
            Calls.call(x, "clock", rows[i][0]);
            Calls.call(x, "row", rows[i][1], rows[i][2]);
            Calls.call(x, "make", i == 4 ? 1 : 0, i, 5, 0, 299);
            if (i == 2) Calls.call(x, "image", 1);
        }
        Calls.call(x, "raw", 1, 145, -1000000);
        Calls.call(x, "raw", 2, 0, 1300);
        int[][] slips = {{0, 0, 149, 2}, {1, 145, 299, -30}, {2, 100, 105, 9}};
        for (int[] s : slips) Calls.call(x, "slip", s);
        int[][] candidates = {{0, 10}, {1, 5}, {2, 7}};
        for (int[] c : candidates) Calls.call(x, "candidate", c);
        int[][] houses = {{0, 1000, 1}, {0, 30000, 15}, {1, -5000, 6}};
        for (int[] h : houses) Calls.call(x, "house", h);
        for (int what = 0; what < 4; what++) Calls.call(x, "told", what, 11 + what);
        Calls.call(x, "image", 3);
        feed(x, TAPE);
        return x;
    }

    private static final int[] WATCHED = {0, 1, 20, 49, 50, 51, 100, 139, 140, 145, 149, 150, 159, 160, 200, 280, 298, 299};

    /** What is answered to questions about all that there is; the last of them change the object. */
    static List<Long> answers(Object x) {
        List<Long> a = new ArrayList<>();
        for (int what = 0; what <= 10; what++) a.add(Calls.call(x, "count", what));
        int rows = (int) Calls.call(x, "count", 1);
        for (int row = 0; row < rows; row++) {
            // of many ROWS the first ones and the last one, to keep to the calls of one object
            if (row >= ROWS && row < rows - 1) continue;
            for (int colour : WATCHED) a.add(Calls.call(x, "read", row, colour));
            for (int curve = 0; curve < 2; curve++) {
                a.add(Calls.call(x, "deep", curve, row, 0));
                a.add(Calls.call(x, "deep", curve, row, 1));
            }
            a.add(Calls.call(x, "stuff", 0, row, 2, 0));
            a.add(Calls.call(x, "stuff", 0, row, 3, 3));
        }
        for (int week : new int[] {2, 3, 7, 9}) {
            a.add(Calls.call(x, "together", 0, 15, week, 0));
            a.add(Calls.call(x, "hour", 0, week, 1));
            for (int house = 0; house < HOUSES + 1; house++) a.add(Calls.call(x, "says", house, week));
        }
        for (int glass = 0; glass < 4; glass++) a.add(Calls.call(x, "together", 0, 1 << glass, 399, 2));
        a.add(Calls.call(x, "next", 0, 15, 0));
        a.add(Calls.call(x, "next", 0, 999, 1));
        for (int way = 0; way < WAYS + 1; way++) a.add(Calls.call(x, "gives", way));
        changing(x, a);
        return a;
    }

    private static void changing(Object x, List<Long> a) {
        for (int slip = 0; slip < SLIPS + 1; slip++) a.add(Calls.call(x, "anew", slip, 0));
        for (int what = 0; what < 4; what++) a.add(Calls.call(x, "told", what, 0));
        a.add(Calls.call(x, "text", 2));
        for (int way = 0; way < WAYS + 2; way++) a.add(Calls.call(x, "gives", way));
        a.add(Calls.call(x, "row", 0, 0));
        a.add(Calls.call(x, "slip", 0, 0, 0, 0));
        a.add(Calls.call(x, "line", 5, 50, 7));
        a.add(Calls.call(x, "line", 2, 20, 100));
        a.add(Calls.call(x, "candidate", 0, 1));
        a.add(Calls.call(x, "house", 0, 0, 1));
        for (int k = 0; k < 4; k++) {
            a.add(Calls.call(x, "back", k));
            for (int what = 0; what <= 10; what++) a.add(Calls.call(x, "count", what));
            a.add(Calls.call(x, "read", 0, 50));
            a.add(Calls.call(x, "together", 0, 15, 399, 0));
        }
    }
}
