import java.util.ArrayList;
import java.util.HashSet;
import java.util.List;
import java.util.Set;
import java.util.function.ToLongFunction;

/** The texts of the document, read sign by sign into trees; a FAULT is thrown where it is found. */
final class Grammar {
    static final class Fault extends Exception {
        private static final long serialVersionUID = 1L;
        final int place;
        final int code;

        Fault(int place, int code) {
            this.place = place;
            this.code = code;
        }
    }

    interface Sum {
        long value(ToLongFunction<String> words);
    }

    interface Test {
        boolean holds(ToLongFunction<String> words);
    }

    static final class Clause {
        String word;
        int a;
        int b;
        Sum sum;
        Test test;
    }

    private final String text;
    private final int sort;
    private int at;
    private int items;

    Grammar(String text, int sort) {
        this.text = text;
        this.sort = sort;
    }

    private void blanks() {
        while (at < text.length() && text.charAt(at) == ' ') at++;
    }

    private boolean isDigit(int i) {
        return i < text.length() && text.charAt(i) >= '0' && text.charAt(i) <= '9';
    }

    private boolean isSmall(int i) {
        return i < text.length() && text.charAt(i) >= 'a' && text.charAt(i) <= 'z';
    }

    /** The word that stands here, or nothing; it isn't gone over. */
    private String wordHere() {
        blanks();
        int to = at;
        while (isSmall(to)) to++;
        return text.substring(at, to);
    }

    private boolean take(String word) {
        if (!wordHere().equals(word)) return false;
        at += word.length();
        return true;
    }

    private boolean takeSign(char sign) {
        blanks();
        if (at >= text.length() || text.charAt(at) != sign) return false;
        at++;
        return true;
    }

    private Fault fault(int code) {
        blanks();
        return new Fault(at, code);
    }

    List<Clause> text() throws Fault {
        List<Clause> clauses = new ArrayList<>();
        Set<String> once = new HashSet<>();
        while (true) {
            String word = wordHere();
            List<String> heads = sort == 0 ? List.of("shine", "ripple", "noise", "eats")
                : sort == 1 ? List.of("bends", "gap", "wide", "skip") : List.of("gives");
            if (!heads.contains(word)) throw fault(0);
            if (clauses.size() == 12) throw fault(4);
            if (List.of("ripple", "noise", "bends", "gap", "wide").contains(word) && !once.add(word)) throw fault(4);
            at += word.length();
            clauses.add(clause(word));
            blanks();
            if (at == text.length()) return clauses;
            if (!takeSign(';')) throw fault(0);
        }
    }

    private Clause clause(String word) throws Fault {
        Clause c = new Clause();
        c.word = word;
        switch (word) {
            case "shine", "gives" -> {
                c.sum = sum();
                if (take("if")) c.test = test(0);
            }
            case "skip" -> c.test = test(0);
            case "ripple" -> {
                c.a = number(2, 99);
                c.b = number(0, 9999);
            }
            case "noise" -> c.a = number(0, 9999);
            case "eats" -> {
                c.a = number(0, 11);
                c.b = number(0, 9999);
            }
            case "bends" -> c.a = number(0, 40);
            case "gap" -> {
                c.a = number(0, 299);
                c.b = number(c.a, 299);
            }
            default -> c.a = number(0, 50);
        }
        return c;
    }

    private int number(int least, int most) throws Fault {
        blanks();
        int from = at;
        int to = at;
        while (isDigit(to)) to++;
        if (to == from) throw fault(0);
        if (to - from > 5) throw fault(1);
        int n = Integer.parseInt(text.substring(from, to));
        if (n < least || n > most) throw fault(1);
        at = to;
        return n;
    }

    private Test test(int depth) throws Fault {
        Test left = part(depth);
        while (take("or")) {
            Test a = left;
            Test b = part(depth);
            left = w -> a.holds(w) || b.holds(w);
        }
        return left;
    }

    private Test part(int depth) throws Fault {
        Test left = fact(depth);
        while (take("and")) {
            Test a = left;
            Test b = fact(depth);
            left = w -> a.holds(w) && b.holds(w);
        }
        return left;
    }

    private Test fact(int depth) throws Fault {
        if (wordHere().equals("not")) {
            if (depth == 10) throw fault(2);
            take("not");
            Test t = fact(depth + 1);
            return w -> !t.holds(w);
        }
        blanks();
        if (at < text.length() && text.charAt(at) == '[') {
            if (depth == 10) throw fault(2);
            takeSign('[');
            Test t = test(depth + 1);
            if (!takeSign(']')) throw fault(0);
            return t;
        }
        Sum a = sum();
        blanks();
        String sign = "";
        for (String s : List.of("<=", ">=", "<", "=", ">")) if (sign.isEmpty() && text.startsWith(s, at)) sign = s;
        if (sign.isEmpty()) throw fault(0);
        if (items == 60) throw fault(3);
        items++;
        at += sign.length();
        Sum b = sum();
        String by = sign;
        return w -> {
            int c = Long.compare(a.value(w), b.value(w));
            return switch (by) {
                case "<" -> c < 0;
                case "<=" -> c <= 0;
                case "=" -> c == 0;
                case ">=" -> c >= 0;
                default -> c > 0;
            };
        };
    }

    private Sum sum() throws Fault {
        Sum left = term();
        while (true) {
            Sum a = left;
            if (takeSign('+')) {
                Sum b = term();
                left = w -> a.value(w) + b.value(w);
            } else if (takeSign('-')) {
                Sum b = term();
                left = w -> a.value(w) - b.value(w);
            } else {
                return left;
            }
        }
    }

    private Sum term() throws Fault {
        Sum left = value();
        while (true) {
            Sum a = left;
            if (takeSign('*')) {
                Sum b = value();
                left = w -> a.value(w) * b.value(w);
            } else if (takeSign('/')) {
                Sum b = value();
                left = w -> b.value(w) == 0 ? 0 : a.value(w) / b.value(w);
            } else {
                return left;
            }
        }
    }

    private Sum value() throws Fault {
        String word = wordHere();
        if (!word.isEmpty()) {
            List<String> words = sort == 2 ? List.of("light", "heat", "storm", "fall", "week")
                : List.of("colour", "glass", "hour", "row");
            if (!words.contains(word)) throw fault(0);
            if (items == 60) throw fault(3);
            items++;
            at += word.length();
            return w -> w.applyAsLong(word);
        }
        int from = at;
        int to = at;
        while (isDigit(to)) to++;
        if (to == from) throw fault(0);
        if (to - from > 5) throw fault(1);
        if (items == 60) throw fault(3);
        items++;
        long n = Long.parseLong(text.substring(from, to));
        at = to;
        return w -> n;
    }
}
