import java.util.List;

/**
 * Every argument of every call: at its bounds, one below and one above them, and far away. What is refused answers as
 * the document says and changes nothing; what only asks changes nothing either; what is taken changes what the Model says.
 */
public final class BoundsTest {
    private static final int MIN = Integer.MIN_VALUE;
    private static final int MAX = Integer.MAX_VALUE;
    private static final int[] LAW = {0, Filled.LAWS - 1};
    private static final int[] CURVE = {0, Filled.CURVES - 1};
    private static final int[] ROW = {0, Filled.ROWS - 1};
    private static final int[] SLIP = {0, Filled.SLIPS - 1};
    private static final int[] COLOUR = {0, 299};
    private static final int[] GLASS = {0, 3};
    private static final int[] GLASSES = {1, 15};
    private static final int[] WEEK = {0, 399};
    private static final int[] SEED = {0, MAX};
    private static final int[] BAR = {-999999, 999999};
    private static final int[] NEED = {0, 999999999};

    private static final List<Long> UNTOUCHED = Filled.answers(Filled.fill(new ThinLine()));

    public static void main(String[] args) {
        Due.due("the questions are as the model answers them", UNTOUCHED.equals(Filled.answers(Filled.fill(new Model()))), true);
        everyChangeIsSeen();
        told();
        texts();
        curves();
        elsewhere();
        stuffs();
        glasses();
        ripples();
        houses();
        candidatesAndWays();
        images();
        onNothing();
        asManyAsCanBe();
        Due.due("no object is called more than 512 times", Calls.most() <= 512, true);
        Due.end();
    }

    /** One call: its refused answer, arguments that are as told, and the least and the most of each beside the others. */
    private static void bounds(String name, long refused, int[] args, int[]... spans) {
        Due.due(name + ": a span for each argument", spans.length, args.length);
        taken(name, refused, args);
        for (int i = 0; i < args.length; i++) {
            int least = spans[i][0];
            int most = spans[i][1];
            taken(name, refused, with(args, i, least));
            taken(name, refused, with(args, i, most));
            if (least > MIN) refused(name, refused, with(args, i, least - 1));
            if (least > MIN + 1) refused(name, refused, with(args, i, MIN));
            if (most < MAX) refused(name, refused, with(args, i, most + 1));
            if (most < MAX - 1) refused(name, refused, with(args, i, MAX));
        }
        allAtOnce(name, refused, spans);
    }

    /** All arguments out of their bounds at once, below and above. */
    private static void allAtOnce(String name, long refused, int[][] spans) {
        int[] below = new int[spans.length];
        int[] above = new int[spans.length];
        for (int i = 0; i < spans.length; i++) {
            below[i] = spans[i][0] - 1;
            above[i] = spans[i][1] == MAX ? MAX : spans[i][1] + 1;
        }
        refused(name, refused, below);
        refused(name, refused, above);
    }

    private static int[] with(int[] args, int at, int n) {
        int[] other = args.clone();
        other[at] = n;
        return other;
    }

    private static void refused(String name, long refused, int... args) {
        ThinLine x = Filled.fill(new ThinLine());
        Due.due(Calls.spell(name, args), Calls.call(x, name, args), refused);
        Due.due(Calls.spell(name, args) + " is refused and nothing happens", Filled.answers(x).equals(UNTOUCHED), true);
    }

    private static void taken(String name, long refused, int... args) {
        ThinLine x = Filled.fill(new ThinLine());
        Model m = Filled.fill(new Model());
        long got = Calls.call(x, name, args);
        Due.due(Calls.spell(name, args) + " is taken", got != refused, true);
        Due.due(Calls.spell(name, args), got, Calls.call(m, name, args));
        List<Long> behind = Filled.answers(x);
        boolean asks = !CHANGING.contains(name);
        Due.due("behind " + Calls.spell(name, args), behind.equals(asks ? UNTOUCHED : Filled.answers(m)), true);
    }

    private static final List<String> CHANGING = List.of("clock", "row", "raw", "slip", "anew", "line", "feed", "end", "text", "make",
        "house", "candidate", "told", "image", "back");

    /** Were a call's change not seen by the questions, they would say nothing of what is refused. */
    private static void everyChangeIsSeen() {
        Object[][] calls = {{"clock", 10}, {"row", 0, 0}, {"raw", 4, 50, 1}, {"raw", 0, 299, -1000000}, {"slip", 3, 7, 7, 1}, {"slip", 0, 50, 50, 1},
            {"anew", 2, 8}, {"line", 11, 298, 1}, {"feed", 0, 0, 0, 0, 0}, {"end", 14}, {"text", 2}, {"text", 0}, {"make", 0, 4, 1, 299, 299},
            {"house", 0, 999999, 1}, {"candidate", 3, 1}, {"told", 3, 13}, {"image", 0}, {"image", 1}, {"image", 3}, {"back", 1}, {"back", 3}};
        for (Object[] c : calls) {
            int[] args = new int[c.length - 1];
            for (int i = 0; i < args.length; i++) args[i] = (Integer) c[i + 1];
            ThinLine x = Filled.fill(new ThinLine());
            Calls.call(x, (String) c[0], args);
            Due.due("the questions see " + Calls.spell((String) c[0], args), Filled.answers(x).equals(UNTOUCHED), false);
        }
    }

    private static void told() {
        bounds("clock", 0, new int[] {20}, new int[] {Filled.NOW, 399});
        bounds("row", -1, new int[] {2, 500}, GLASS, new int[] {0, 999});
        bounds("raw", -2000000, new int[] {1, 50, 77}, ROW, COLOUR, new int[] {-100000, 100000});
        taken("raw", -2000000, 1, 50, -1000000);
        refused("raw", -2000000, 1, 50, -999999);
        refused("raw", -2000000, 1, 50, -1000001);
        refused("raw", -2000000, -1, 50, -1000000);
        refused("raw", -2000000, 1, 300, -1000000);
        bounds("read", -2000000, new int[] {1, 50}, ROW, COLOUR);
        bounds("slip", -1, new int[] {1, 50, 60, 5}, GLASS, new int[] {0, 60}, new int[] {50, 299}, new int[] {-9999, 9999});
        taken("slip", -1, 1, 0, 299, 5);
        refused("slip", -1, 1, 300, 300, 5);
        refused("slip", -1, 1, -1, -1, 5);
        bounds("anew", -2000000, new int[] {1, 5}, SLIP, new int[] {-9999, 9999});
        bounds("line", -1, new int[] {5, 50, 7}, new int[] {0, 11}, COLOUR, new int[] {1, 1000});
        refused("line", -1, 2, 20, 100);
        refused("line", -1, 2, 20, 99);
        taken("line", -1, 2, 21, 100);
        taken("line", -1, 1, 20, 100);
        bounds("told", -1, new int[] {1, 5}, new int[] {0, 3}, new int[] {0, 9999});
        bounds("count", -1, new int[] {5}, new int[] {0, 10});
    }

    private static void texts() {
        taken("feed", -1, MIN, MAX, -1, 0, 1);
        bounds("end", -1, new int[] {5}, new int[] {0, Filled.TAPE.length()});
        // a LAW and a CURVE have a FAULT, which is not NONE
        bounds("text", -1, new int[] {2}, new int[] {0, 2});
        bounds("make", -1, new int[] {1, 1, 5, 20, 30}, LAW, ROW, SEED, new int[] {0, 30}, new int[] {20, 299});
        taken("make", -1, 1, 1, 5, 0, 299);
        taken("make", -1, 1, 1, 5, 0, 0);
        taken("make", -1, 1, 1, 5, 299, 299);
        refused("make", -1, 1, 1, 5, 300, 300);
        refused("make", -1, 1, 1, 5, -1, -1);
    }

    private static void curves() {
        bounds("curve", -2000000, new int[] {0, 1, 50, 1}, CURVE, ROW, COLOUR, new int[] {0, 2});
        bounds("deep", -2000000000, new int[] {0, 1, 0}, CURVE, ROW, new int[] {0, 4});
        bounds("bent", -2000000000, new int[] {0, 1, 5}, CURVE, ROW, new int[] {0, 40});
        bounds("best", -1, new int[] {0, 1, 5, 0}, CURVE, ROW, new int[] {0, 99999}, new int[] {0, 1});
        bounds("taken", -2000000, new int[] {0, 1, 5, 5}, CURVE, ROW, new int[] {1, 9999}, new int[] {1, 99});
    }

    private static void elsewhere() {
        bounds("moved", -2000000000, new int[] {0, 1, 50}, CURVE, ROW, new int[] {0, 280});
        // a gap of ten
        bounds("moved", -2000000000, new int[] {1, 1, 50}, CURVE, ROW, new int[] {0, 290});
        bounds("elsewhere", -1, new int[] {0, 1, 0}, CURVE, ROW, new int[] {0, 1});
        bounds("deepest", -2100000000, new int[] {0, 1, 0}, CURVE, ROW, new int[] {0, 1});
        bounds("drawn", -1, new int[] {1, 0, 1, 5, 2}, LAW, CURVE, ROW, SEED, new int[] {1, 50});
        // two CURVES that are unlike: one beside it is the other
        bounds("apart", -1, new int[] {1, 2, 5}, new int[] {0, 1}, new int[] {2, 2}, BAR);
        bounds("apart", -1, new int[] {0, 2, 5}, new int[] {0, 1}, new int[] {1, 2}, BAR);
        for (int curve = 0; curve < Filled.CURVES; curve++) refused("apart", -1, curve, curve, 5);
    }

    private static void stuffs() {
        bounds("stuff", -2, new int[] {0, 1, 2, 0}, CURVE, ROW, new int[] {0, 11}, new int[] {0, 3});
        bounds("likeliest", -1, new int[] {0, 1}, CURVE, ROW);
    }

    private static void glasses() {
        bounds("together", -2000000000, new int[] {0, 15, 9, 0}, CURVE, GLASSES, WEEK, new int[] {0, 2});
        bounds("hour", -1, new int[] {0, 9, 0}, CURVE, WEEK, new int[] {0, 1});
        bounds("said", -1, new int[] {0, 9, 5}, CURVE, WEEK, BAR);
        for (int what = 0; what <= 1; what++) {
            int[] one = {0, 1};
            bounds("weeks", -1, new int[] {0, 5, 20, 5, 1, what}, CURVE, new int[] {0, 20}, new int[] {5, 104}, BAR, new int[] {1, 4}, one);
            bounds("weeks", -1, new int[] {0, 350, 399, 5, 1, what}, CURVE, new int[] {300, 399}, new int[] {350, 399}, BAR, new int[] {1, 4}, one);
            bounds("weeks", -1, new int[] {0, 0, 99, 5, 1, what}, CURVE, new int[] {0, 99}, new int[] {0, 99}, BAR, new int[] {1, 4}, one);
        }
        bounds("odd", -1, new int[] {0, 0}, CURVE, GLASS);
    }

    private static void ripples() {
        bounds("ripple", -2, new int[] {0, 1, 0}, CURVE, ROW, new int[] {0, 1});
        bounds("smooth", -2000000, new int[] {0, 1}, CURVE, ROW);
        bounds("without", -2000000, new int[] {0, 1, 1}, CURVE, ROW, SLIP);
        bounds("weightiest", -1, new int[] {0, 1}, CURVE, ROW);
    }

    private static void houses() {
        bounds("house", -1, new int[] {0, 5, 3}, CURVE, BAR, GLASSES);
        bounds("says", -1, new int[] {1, 9}, new int[] {0, Filled.HOUSES - 1}, WEEK);
        bounds("agreed", -1, new int[] {9}, WEEK);
        bounds("alone", -1, new int[] {9}, WEEK);
    }

    private static void candidatesAndWays() {
        bounds("candidate", -1, new int[] {1, 5}, GLASS, new int[] {1, 99});
        bounds("next", -1, new int[] {0, 20, 0}, CURVE, new int[] {0, 999}, new int[] {0, 1});
        bounds("gives", -1, new int[] {1}, new int[] {0, Filled.WAYS - 1});
        bounds("brief", -1, new int[] {50}, NEED);
        bounds("fewest", -1, new int[] {50, 0}, NEED, new int[] {0, 1});
    }

    private static void images() {
        bounds("image", -1, new int[] {2}, new int[] {0, 3});
        bounds("back", -1, new int[] {3}, new int[] {3, 3});
        bounds("back", -1, new int[] {1}, new int[] {1, 1});
    }

    /** On a new object there are no ROWS, no texts and nothing of all that is told. */
    private static void onNothing() {
        Object[][] calls = {
            {"raw", -2000000, 0, 0, 0}, {"read", -2000000, 0, 0}, {"anew", -2000000, 0, 0}, {"end", -1, 1}, {"make", -1, 0, 0, 0, 0, 0},
            {"curve", -2000000, 0, 0, 0, 0}, {"deep", -2000000000, 0, 0, 0}, {"moved", -2000000000, 0, 0, 0}, {"elsewhere", -1, 0, 0, 0},
            {"drawn", -1, 0, 0, 0, 0, 1}, {"bent", -2000000000, 0, 0, 0}, {"best", -1, 0, 0, 0, 0}, {"taken", -2000000, 0, 0, 1, 1},
            {"apart", -1, 0, 1, 0}, {"stuff", -2, 0, 0, 0, 0}, {"likeliest", -1, 0, 0}, {"together", -2000000000, 0, 15, 0, 0},
            {"hour", -1, 0, 0, 0}, {"said", -1, 0, 0, 0}, {"weeks", -1, 0, 0, 0, 0, 1, 0}, {"ripple", -2, 0, 0, 0}, {"smooth", -2000000, 0, 0},
            {"without", -2000000, 0, 0, 0}, {"weightiest", -1, 0, 0}, {"deepest", -2100000000, 0, 0, 0}, {"house", -1, 0, 0, 1},
            {"says", -1, 0, 0}, {"odd", -1, 0, 0}, {"next", -1, 0, 0, 0}, {"gives", -1, 0}, {"back", -1, 0},
            // these need nothing to be there
            {"clock", 1, 0}, {"end", 0, 0}, {"text", -3, 0}, {"text", -3, 1}, {"text", -3, 2}, {"agreed", -2, 399}, {"alone", -2, 399},
            {"brief", 5, 5}, {"fewest", 0, 0, 0}, {"fewest", 0, 0, 1}, {"fewest", -2, 1, 0}, {"fewest", -2, 1, 1}, {"told", 0, 3, 0}};
        ThinLine x = new ThinLine();
        for (Object[] c : calls) {
            int[] args = new int[c.length - 2];
            for (int i = 0; i < args.length; i++) args[i] = (Integer) c[i + 2];
            String name = (String) c[0];
            Due.due("new: " + Calls.spell(name, args), Calls.call(x, name, args), (Integer) c[1]);
        }
        for (int what = 0; what <= 10; what++) Due.due("new, and asked: count(" + what + ")", x.count(what), 0);
    }

    /** A filled object with as many of one kind as can be: one more is refused and nothing happens. */
    private static void full(int what, int most, String name, int[] wrong, int[]... more) {
        ThinLine x = full(what, most, more, name);
        ThinLine untouched = full(what, most, more, name);
        Due.due(name + ": as many as can be", x.count(what), most);
        Due.due("one more: " + Calls.spell(name, more[0]), Calls.call(x, name, more[0]), -1);
        Due.due("one more, not as told: " + Calls.spell(name, wrong), Calls.call(x, name, wrong), -1);
        Due.due("nothing happens behind one more " + name, Filled.answers(x).equals(Filled.answers(untouched)), true);
    }

    /** The first of the calls is kept for the one more. */
    private static ThinLine full(int what, int most, int[][] more, String name) {
        ThinLine x = Filled.fill(new ThinLine());
        for (int i = 0; i < most && x.count(what) < most; i++) Calls.call(x, name, more[(i + 1) % more.length]);
        return x;
    }

    private static void asManyAsCanBe() {
        full(1, 24, "row", new int[] {4, 0}, new int[] {3, 999}, new int[] {0, 10});
        full(2, 40, "slip", new int[] {0, 2, 1, 0}, new int[] {0, 50, 50, 1}, new int[] {3, 0, 299, 9});
        int[][] lines = new int[60][];
        for (int i = 0; i < 60; i++) lines[i] = new int[] {i % 12, 200 + i, 1 + i};
        full(3, 60, "line", new int[] {12, 0, 1}, lines);
        full(7, 10, "candidate", new int[] {0, 100}, new int[] {1, 99});
        full(10, 8, "house", new int[] {0, 0, 16}, new int[] {1, -999999, 15});
        // fifteen bytes are there, and nineteen times twenty come; the twentieth time they would be 415
        full(9, 395, "feed", new int[] {-1, -1, -1, -1, -1}, new int[] {0x20202020, 0x20202020, 0x20202020, 0x20202020, 0x20202020});
    }
}
