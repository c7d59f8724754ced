import java.nio.charset.StandardCharsets;

/** What the tests share: it prints every answer that is not the one that is due. */
final class Due {
    private static int wrong = 0;
    private static int asked = 0;

    private Due() {
    }

    static void due(String call, long got, long want) {
        asked++;
        if (got != want) {
            wrong++;
            System.out.println(call + " answered " + got + ", due is " + want);
        }
    }

    static void due(String call, boolean got, boolean want) {
        due(call, got ? 1 : 0, want ? 1 : 0);
    }

    static int wrongSoFar() {
        return wrong;
    }

    /** Ends the test: exit code 1 if an answer was wrong, or nothing was asked. */
    static void end() {
        System.out.println(asked + " answers, " + wrong + " not as due");
        if (wrong != 0 || asked == 0) {
            System.exit(1);
        }
    }

    /** Puts bytes behind the TAPE, as many as there are. */
    static void tape(ThinLine x, String text) {
        byte[] bytes = text.getBytes(StandardCharsets.ISO_8859_1);
        int before = x.count(9);
        for (int at = 0; at < bytes.length; at += 20) {
            x.feed(four(bytes, at), four(bytes, at + 4), four(bytes, at + 8), four(bytes, at + 12), four(bytes, at + 16));
        }
        x.end(before + bytes.length);
    }

    static int four(byte[] bytes, int at) {
        int n = 0;
        for (int i = at; i < at + 4; i++) {
            n = n << 8 | (i < bytes.length ? bytes[i] & 255 : 0);
        }
        return n;
    }

    /** Feeds a text and makes it one of a sort. */
    static int text(ThinLine x, int sort, String text) {
        tape(x, text);
        return x.text(sort);
    }

    static int law(ThinLine x, String text) {
        return text(x, 0, text);
    }

    static int curve(ThinLine x, String text) {
        return text(x, 1, text);
    }

    static int way(ThinLine x, String text) {
        return text(x, 2, text);
    }

    /** A ROW whose RAW is made by a LAW of this text, all 300 COLOURS. */
    static int made(ThinLine x, int glass, int hour, String law, int seed) {
        int row = x.row(glass, hour);
        x.make(law(x, law), row, seed, 0, 299);
        return row;
    }
}
