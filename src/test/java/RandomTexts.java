import java.util.Random;

/** Texts as they may come: most of them in order, some with a FAULT somewhere. */
final class RandomTexts {
    private final Random random;

    RandomTexts(Random random) {
        this.random = random;
    }

    private int upTo(int most) {
        return random.nextInt(most + 1);
    }

    private String of(String... some) {
        return some[random.nextInt(some.length)];
    }

    private String gap() {
        return of("", "", " ", " ", "  ");
    }

    private String value(int sort) {
        if (random.nextBoolean()) {
            return String.valueOf(of("0", "1", "2", "7", "30", "150", "299", "1000", "9999", "99999", "00012"));
        }
        return sort == 2 ? of("light", "heat", "storm", "fall", "week") : of("colour", "colour", "glass", "hour", "row");
    }

    private String sum(int sort) {
        StringBuilder b = new StringBuilder(value(sort));
        int more = upTo(2);
        for (int i = 0; i < more; i++) b.append(gap()).append(of("+", "-", "*", "/")).append(gap()).append(value(sort));
        return b.toString();
    }

    private String fact(int sort, int depth) {
        int kind = depth > 3 ? 9 : upTo(9);
        if (kind == 0) return "not " + gap() + fact(sort, depth + 1);
        if (kind == 1) return "[" + gap() + test(sort, depth + 1) + gap() + "]";
        return sum(sort) + gap() + of("<", "<=", "=", ">=", ">") + gap() + sum(sort);
    }

    private String test(int sort, int depth) {
        StringBuilder b = new StringBuilder(fact(sort, depth));
        for (int i = 0; i < 3 && upTo(3) == 0; i++) b.append(" ").append(of("and", "or")).append(" ").append(fact(sort, depth));
        return b.toString();
    }

    private String clause(int sort) {
        if (sort == 2) return "gives " + sum(2) + (random.nextBoolean() ? " if " + test(2, 0) : "");
        if (sort == 0) {
            switch (upTo(5)) {
                case 0: return "ripple " + (2 + upTo(97)) + " " + upTo(upTo(9999));
                case 1: return "noise " + upTo(upTo(9999));
                case 2: return "eats " + upTo(11) + " " + upTo(9999);
                default: return "shine " + sum(0) + (random.nextBoolean() ? " if " + test(0, 0) : "");
            }
        }
        switch (upTo(4)) {
            case 0: return "bends " + upTo(40);
            case 1: return "wide " + upTo(50);
            case 2: return "skip " + skip();
            default:
                int from = upTo(299);
                return "gap " + from + " " + Math.min(299, from + upTo(upTo(upTo(299))));
        }
    }

    /** Most skip but a few COLOURS, so that something is USED. */
    private String skip() {
        switch (upTo(4)) {
            case 0: return test(1, 0);
            case 1: return "colour < " + upTo(200);
            case 2: return "colour - colour / " + (2 + upTo(20)) + " * 5 = " + upTo(9);
            case 3: return "not [ colour > " + upTo(100) + " ] and glass = " + upTo(3);
            default: return "hour > " + upTo(999) + " and colour >= " + upTo(299) + " or row = " + upTo(24);
        }
    }

    /** A text in order, but for a second ripple or the like. */
    String ordinary(int sort) {
        StringBuilder b = new StringBuilder(gap()).append(clause(sort));
        int more = upTo(upTo(4));
        for (int i = 0; i < more; i++) b.append(gap()).append(";").append(gap()).append(clause(sort));
        return cut(b.append(gap()).toString());
    }

    String any(int sort) {
        switch (upTo(9)) {
            case 0: return broken(ordinary(sort));
            case 1: return broken(broken(ordinary(sort)));
            case 2: return ordinary(upTo(2));
            case 3: return crowded(sort);
            case 4: return deepDown(sort);
            default: return ordinary(sort);
        }
    }

    private String broken(String text) {
        StringBuilder b = new StringBuilder(text);
        int at = upTo(b.length());
        String junk = of(" ", "a", "0", "[", "]", ";", "<", "=", ">", "+", "-", "*", "/", "not ", "or", "and", "if", "A", "\u0000",
            "\u00e9", "123456", "99999", " colour", "row", "shine", "gap 3 2", "noise 1;");
        switch (upTo(2)) {
            case 0: b.insert(at, junk); break;
            case 1: b.delete(at, Math.min(b.length(), at + 1 + upTo(3))); break;
            default: b.replace(at, Math.min(b.length(), at + 1), junk);
        }
        return cut(b.toString());
    }

    /** About as many VALUES, FACTS and CLAUSES as can be, or some more. */
    private String crowded(int sort) {
        StringBuilder b = new StringBuilder();
        String head = sort == 0 ? "shine 1" : sort == 1 ? "skip 1=2" : "gives 1";
        int clauses = upTo(13);
        for (int i = 0; i < clauses; i++) b.append(i == 0 ? "" : ";").append(head);
        int values = 40 + upTo(30);
        for (int i = 0; i < values; i++) b.append(of("+", "+", "-", "*", "/")).append(of("1", "2", "3", "1000000"));
        if (sort != 1 && random.nextBoolean()) {
            b.append(" if 1=2");
            for (int i = upTo(20); i > 0; i--) b.append(" or 1<2");
        }
        return cut(b.toString());
    }

    private String deepDown(int sort) {
        StringBuilder b = new StringBuilder(sort == 0 ? "shine 5 if " : sort == 1 ? "skip " : "gives 8 if ");
        int deep = 8 + upTo(4);
        StringBuilder close = new StringBuilder();
        for (int i = 0; i < deep; i++) {
            if (random.nextBoolean()) {
                b.append("not ");
            } else {
                b.append("[");
                close.append("]");
            }
        }
        b.append("1 < 2");
        if (upTo(3) > 0) b.append(close);
        return cut(b.toString());
    }

    private String cut(String text) {
        return text.length() > 400 ? text.substring(0, 400) : text;
    }
}
