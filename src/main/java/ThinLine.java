import java.util.Arrays;

/**
 * A line that is hardly there: rows of numbers by colour, curves taken off beside a gap, and what is left in it.
 * ../shared/DOC.md says what each call promises; words in capitals below are the document's.
 */
public final class ThinLine {
    public static final int NONE = -1;

    private static final int WEEKS = 400;
    private static final int COLOURS = 300;
    private static final int GLASSES = 4;
    private static final int ROWS = 24;
    private static final int STUFFS = 12;
    private static final int IMAGES = 4;
    private static final int MOST_BYTES = 400;
    private static final int MOST_CLAUSES = 12;
    private static final int MOST_ITEMS = 60;
    private static final int MOST_DEPTH = 10;
    private static final int MOST_BENDS = 40;
    private static final int MOST_PERIOD = 99;
    private static final int MOST_RAW = 100000;
    private static final int MOST_SLIP = 9999;
    private static final int MOST_BAR = 999999;
    private static final int ALL_GLASSES = 15;

    private static final int NOTHING = -1000000;
    private static final int WRONG = -2000000;
    private static final int NO_SCORE = -1000000000;
    private static final int ALL_WRONG = -2000000000;

    private static final int LAW = 0;
    private static final int CURVE = 1;
    private static final int WAY = 2;

    private static final int UNKNOWN = -1;
    private static final int SHINE = 0;
    private static final int RIPPLE = 1;
    private static final int NOISE = 2;
    private static final int EATS = 3;
    private static final int BENDS = 4;
    private static final int GAP = 5;
    private static final int WIDE = 6;
    private static final int SKIP = 7;
    private static final int GIVES = 8;
    private static final int IF = 9;
    private static final int OR = 10;
    private static final int AND = 11;
    private static final int NOT = 12;
    private static final int COLOUR_WORD = 13;
    private static final int ROW_WORD = 16;
    private static final int LIGHT_WORD = 17;
    private static final int WEEK_WORD = 21;
    private static final int SPELLED = 22;

    private static final int END = 0;
    private static final int BAD = 1;
    private static final int NUMBER = 2;
    private static final int WORD = 3;
    private static final int PLUS = 4;
    private static final int MINUS = 5;
    private static final int TIMES = 6;
    private static final int OVER = 7;
    private static final int BELOW = 8;
    private static final int NOT_ABOVE = 9;
    private static final int EQUAL = 10;
    private static final int NOT_BELOW = 11;
    private static final int ABOVE = 12;
    private static final int BOTH = 13;
    private static final int EITHER = 14;
    private static final int TURNED = 15;
    private static final int OPEN = 16;
    private static final int CLOSE = 17;
    private static final int NEXT_CLAUSE = 18;

    private static final int CANNOT_STAND = 0;
    private static final int NOT_AS_TOLD = 1;
    private static final int TOO_DEEP = 2;
    private static final int TOO_MANY_ITEMS = 3;
    private static final int TOO_MANY_CLAUSES = 4;

    private final Book book;
    private final Book[] images;
    private final Texts laws;
    private final Texts curves;
    private final Texts ways;
    private final Parser parser;
    private Text draft;
    private final Sums sums;
    private final Maker maker;
    private final View view;
    private final Rests rests;
    private final int[] rowDeeps;
    private final int[] sorted;
    private final int[] firstWeeks;
    private final long[] worths;
    private final int[] given;

    public ThinLine() {
        book = new Book();
        images = new Book[IMAGES];
        laws = new Texts(6);
        curves = new Texts(8);
        ways = new Texts(8);
        parser = new Parser();
        draft = new Text();
        sums = new Sums();
        maker = new Maker();
        view = new View();
        rests = new Rests();
        rowDeeps = new int[ROWS];
        sorted = new int[ROWS];
        firstWeeks = new int[8];
        worths = new long[10];
        given = new int[8];
    }

    // ---- what is told ----

    public boolean clock(int week) {
        if (!isWeek(week) || week < book.now) {
            return false;
        }
        book.now = week;
        return true;
    }

    public int row(int glass, int hour) {
        if (!isGlass(glass) || !isIn(hour, 0, 999)) {
            return NONE;
        }
        return book.rows.add(glass, hour, book.now);
    }

    public int raw(int row, int colour, int n) {
        boolean asTold = n == NOTHING || isIn(n, -MOST_RAW, MOST_RAW);
        if (!book.rows.has(row) || !isColour(colour) || !asTold) {
            return WRONG;
        }
        return book.rows.put(row, colour, n);
    }

    public int read(int row, int colour) {
        if (!book.rows.has(row) || !isColour(colour)) {
            return WRONG;
        }
        int told = book.rows.raw[row][colour];
        return told == NOTHING ? NOTHING : told - book.slipped(book.rows.glass[row], colour);
    }

    public int slip(int glass, int from, int to, int n) {
        if (!isGlass(glass) || !isSpan(from, to) || !isIn(n, -MOST_SLIP, MOST_SLIP)) {
            return NONE;
        }
        return book.slips.add(glass, from, to, n);
    }

    public int anew(int slip, int n) {
        if (!book.slips.has(slip) || !isIn(n, -MOST_SLIP, MOST_SLIP)) {
            return WRONG;
        }
        int before = book.slips.cell(slip, Book.SLIP_N);
        book.slips.set(slip, Book.SLIP_N, n);
        return before;
    }

    public int line(int stuff, int colour, int depth) {
        if (!isStuff(stuff) || !isColour(colour) || !isIn(depth, 1, 1000) || book.hasLine(stuff, colour)) {
            return NONE;
        }
        return book.lines.add(stuff, colour, depth, 0) == NONE ? NONE : book.lines.size;
    }

    // ---- texts ----

    public int feed(int a, int b, int c, int d, int e) {
        if (book.taped > MOST_BYTES - 20) {
            return NONE;
        }
        book.append(a);
        book.append(b);
        book.append(c);
        book.append(d);
        book.append(e);
        return book.taped;
    }

    public int end(int n) {
        if (!isIn(n, 0, book.taped)) {
            return NONE;
        }
        book.taped = n;
        return n;
    }

    public int text(int sort) {
        Texts shelf = shelfOf(sort);
        if (shelf == null || shelf.isFull()) {
            return NONE;
        }
        draft.wipe();
        int fault = parser.parse(book, sort, draft);
        book.taped = 0;
        if (fault != 0) {
            return -2 - fault;
        }
        int number = shelf.keep(draft);
        draft = new Text();
        return number;
    }

    private Texts shelfOf(int sort) {
        switch (sort) {
            case LAW: return laws;
            case CURVE: return curves;
            case WAY: return ways;
            default: return null;
        }
    }

    public int make(int law, int row, int seed, int from, int to) {
        Text text = laws.at(law);
        if (text == null || !book.rows.has(row) || seed < 0 || !isSpan(from, to)) {
            return NONE;
        }
        sums.setRow(book.rows, row);
        maker.begin(text, seed);
        maker.eat(text, book.lines);
        for (int colour = from; colour <= to; colour++) {
            book.rows.put(row, colour, maker.makeAt(text, sums, colour));
        }
        return to - from + 1;
    }

    // ---- one CURVE and one ROW ----

    /** Lays the CURVE for the ROW in the view, READ without the SLIP (NONE: with all); false without these. */
    private boolean look(int curve, int row, int slip) {
        Text text = curves.at(curve);
        if (text == null || !book.rows.has(row)) {
            return false;
        }
        book.readRow(row, slip, view.told, view.seen);
        sums.setRow(book.rows, row);
        view.skipBy(text, sums);
        view.frameBy(text);
        view.tally();
        view.lay();
        return true;
    }

    public int curve(int curve, int row, int colour, int what) {
        if (!isColour(colour) || !isIn(what, 0, 2) || !look(curve, row, NONE)) {
            return WRONG;
        }
        if (what == 0) {
            return view.isUsed(colour) ? 1 : 0;
        }
        if (!view.isLaid() || (what == 2 && !view.told[colour])) {
            return NOTHING;
        }
        return what == 1 ? view.height[colour] : view.leftAt(colour);
    }

    public long deep(int curve, int row, int what) {
        if (!isIn(what, 0, 4) || !look(curve, row, NONE)) {
            return ALL_WRONG;
        }
        switch (what) {
            case 0: return view.deepness();
            case 1: return view.isLaid() ? view.noisiness() : NONE;
            case 2: return view.scored();
            case 3: return view.knots;
            default: return view.usedCount;
        }
    }

    public long moved(int curve, int row, int from) {
        if (!look(curve, row, NONE) || !isIn(from, 0, COLOURS - view.gapLength())) {
            return ALL_WRONG;
        }
        view.moveTo(from);
        return view.scored();
    }

    public int elsewhere(int curve, int row, int what) {
        if (!isIn(what, 0, 1) || !look(curve, row, NONE)) {
            return NONE;
        }
        if (!view.hasDeep()) {
            return -2;
        }
        long own = view.scored();
        int ownFrom = view.gapFrom;
        int length = view.gapLength();
        int places = 0;
        int notBelow = 0;
        for (int from = 0; from <= COLOURS - length; from++) {
            if (Math.abs(from - ownFrom) >= length) {
                view.moveTo(from);
                places += view.hasDeep() ? 1 : 0;
                notBelow += view.isNotBelow(own) ? 1 : 0;
            }
        }
        return what == 0 ? places : notBelow;
    }

    public long deepest(int curve, int row, int what) {
        if (!isIn(what, 0, 1) || !look(curve, row, NONE)) {
            return -2100000000;
        }
        int ownFrom = view.gapFrom;
        int length = view.gapLength();
        int where = NONE;
        long most = 0;
        for (int from = 0; from <= COLOURS - length; from++) {
            if (Math.abs(from - ownFrom) >= length) {
                view.moveTo(from);
                if (view.hasDeep() && (where == NONE || view.scored() > most)) {
                    where = from;
                    most = view.scored();
                }
            }
        }
        if (where == NONE) {
            return ALL_WRONG;
        }
        return what == 0 ? where : most;
    }

    public int drawn(int law, int curve, int row, int seed, int n) {
        Text text = laws.at(law);
        if (text == null || seed < 0 || !isIn(n, 1, 50) || !look(curve, row, NONE)) {
            return NONE;
        }
        if (!view.hasDeep()) {
            return -2;
        }
        long own = view.scored();
        int notBelow = 0;
        maker.begin(text, seed);
        maker.eatNothing();
        for (int draw = 0; draw < n; draw++) {
            for (int colour = 0; colour < COLOURS; colour++) {
                view.seen[colour] = maker.makeAt(text, sums, colour);
                view.told[colour] = true;
            }
            view.tally();
            view.lay();
            notBelow += view.isNotBelow(own) ? 1 : 0;
        }
        return notBelow;
    }

    public long bent(int curve, int row, int bends) {
        if (!isIn(bends, 0, MOST_BENDS) || !look(curve, row, NONE)) {
            return ALL_WRONG;
        }
        view.bendTo(bends);
        return view.scored();
    }

    public long best(int curve, int row, int price, int what) {
        if (!isIn(price, 0, 99999) || !isIn(what, 0, 1) || !look(curve, row, NONE)) {
            return NONE;
        }
        int bestBends = NONE;
        long least = 0;
        for (int bends = 0; bends <= MOST_BENDS; bends++) {
            view.bendTo(bends);
            long cost = Math.floorDiv(view.squares(), 1000L) + (long) price * bends;
            if (view.isLaid() && (bestBends == NONE || cost < least)) {
                bestBends = bends;
                least = cost;
            }
        }
        if (bestBends == NONE) {
            return -2;
        }
        return what == 0 ? bestBends : least;
    }

    public int taken(int curve, int row, int d, int w) {
        if (!isIn(d, 1, 9999) || !isIn(w, 1, 99) || !look(curve, row, NONE)) {
            return WRONG;
        }
        if (!view.hasDeep()) {
            return NOTHING;
        }
        int before = view.deepness();
        int middle = (view.gapFrom + view.gapTo) / 2;
        int put = 0;
        for (int colour = 0; colour < COLOURS; colour++) {
            int away = Math.abs(colour - middle);
            if (view.told[colour] && away < w) {
                int eaten = d * (w - away) / w;
                view.seen[colour] -= eaten;
                put += view.isInGap(colour) ? eaten : 0;
            }
        }
        view.tally();
        view.lay();
        return put / Math.max(1, view.gapCount) - (view.deepness() - before);
    }

    public int apart(int one, int other, int bar) {
        if (curves.at(one) == null || curves.at(other) == null || one == other || !isBar(bar)) {
            return NONE;
        }
        int apart = 0;
        for (int row = 0; row < book.rows.size; row++) {
            boolean byOne = look(one, row, NONE) && view.isNotBelow(bar);
            boolean byOther = look(other, row, NONE) && view.isNotBelow(bar);
            apart += byOne != byOther ? 1 : 0;
        }
        return apart;
    }

    // ---- STUFFS ----

    public long stuff(int curve, int row, int stuff, int what) {
        if (!isStuff(stuff) || !isIn(what, 0, 3) || !look(curve, row, NONE)) {
            return -2;
        }
        switch (what) {
            case 0: return amountOf(stuff);
            case 1: return elseOf(stuff);
            case 2: return thereOf(stuff, amountOf(stuff));
            default: return boundOf(stuff);
        }
    }

    /** AMOUNT of the STUFF by the view, or NONE. */
    private long amountOf(int stuff) {
        Table lines = book.lines;
        long depths = 0;
        for (int line = 0; line < lines.size; line++) {
            int colour = lines.cell(line, Book.LINE_COLOUR);
            if (lines.cell(line, Book.LINE_STUFF) == stuff && view.isInGap(colour) && view.isTold(colour)) {
                depths += lines.cell(line, Book.LINE_DEPTH);
            }
        }
        if (depths < 1 || !view.hasDeep()) {
            return NONE;
        }
        long deep = view.deepness();
        return deep < 1 ? 0 : deep * view.gapCount * 1000 / depths;
    }

    private boolean isElse(int stuff, int line) {
        int colour = book.lines.cell(line, Book.LINE_COLOUR);
        return book.lines.cell(line, Book.LINE_STUFF) == stuff && !view.isInGap(colour) && view.isTold(colour);
    }

    private int elseOf(int stuff) {
        int lines = 0;
        for (int line = 0; line < book.lines.size; line++) {
            lines += isElse(stuff, line) ? 1 : 0;
        }
        return lines;
    }

    private int thereOf(int stuff, long amount) {
        int there = 0;
        for (int line = 0; amount != NONE && line < book.lines.size; line++) {
            if (isElse(stuff, line)) {
                long due = amount * book.lines.cell(line, Book.LINE_DEPTH) / 1000;
                long left = view.leftAt(book.lines.cell(line, Book.LINE_COLOUR));
                there += -2 * left >= due ? 1 : 0;
            }
        }
        return there;
    }

    private long boundOf(int stuff) {
        long bound = NONE;
        for (int line = 0; view.isLaid() && line < book.lines.size; line++) {
            int depth = book.lines.cell(line, Book.LINE_DEPTH);
            if (depth > 0 && isElse(stuff, line)) {
                long room = view.noisiness() - view.leftAt(book.lines.cell(line, Book.LINE_COLOUR));
                long most = Math.max(0L, Math.floorDiv(room * 1000L, (long) depth));
                bound = bound == NONE ? most : Math.min(bound, most);
            }
        }
        return bound;
    }

    public int likeliest(int curve, int row) {
        if (!look(curve, row, NONE)) {
            return NONE;
        }
        int likeliest = -2;
        int mostThere = 0;
        int ofThese = 1;
        for (int stuff = 0; stuff < STUFFS; stuff++) {
            long amount = amountOf(stuff);
            int there = thereOf(stuff, amount);
            int lines = Math.max(1, elseOf(stuff));
            if (amount != NONE && (likeliest < 0 || there * ofThese > mostThere * lines)) {
                likeliest = stuff;
                mostThere = there;
                ofThese = lines;
            }
        }
        return likeliest;
    }

    // ---- GLASSES beside one another, WEEK by WEEK ----

    /** DEEP of each ROW by a CURVE (NOTHING: none). */
    private void findDeeps(int curve) {
        for (int row = 0; row < book.rows.size; row++) {
            rowDeeps[row] = look(curve, row, NONE) ? view.deepness() : NOTHING;
        }
    }

    private boolean isKnown(int row, int week) {
        return book.rows.known[row] <= week;
    }

    public int together(int curve, int glasses, int week, int part) {
        if (curves.at(curve) == null || !isIn(glasses, 1, ALL_GLASSES) || !isWeek(week) || !isIn(part, 0, 2)) {
            return ALL_WRONG;
        }
        findDeeps(curve);
        int sum = 0;
        int rows = 0;
        for (int row = 0; row < book.rows.size; row++) {
            boolean asked = (glasses >> book.rows.glass[row] & 1) == 1;
            if (asked && isKnown(row, week) && rowDeeps[row] != NOTHING) {
                sum += rowDeeps[row];
                rows++;
            }
        }
        int common = Math.max(1, commonDivisor(sum, rows));
        switch (part) {
            case 0: return sum / common;
            case 1: return rows / common;
            default: return rows;
        }
    }

    private static int commonDivisor(int one, int other) {
        int a = Math.abs(one);
        int b = Math.abs(other);
        for (int step = 0; b != 0 && step < 100; step++) {
            int rest = a % b;
            a = b;
            b = rest;
        }
        return a;
    }

    public int hour(int curve, int week, int what) {
        if (curves.at(curve) == null || !isWeek(week) || !isIn(what, 0, 1)) {
            return NONE;
        }
        findDeeps(curve);
        int pairs = 0;
        int apart = 0;
        for (int one = 0; one < book.rows.size; one++) {
            for (int other = one + 1; other < book.rows.size; other++) {
                if (isPair(one, other) && isKnown(one, week) && isKnown(other, week)) {
                    pairs++;
                    apart += Math.abs(rowDeeps[one] - rowDeeps[other]);
                }
            }
        }
        return what == 0 ? pairs : apart;
    }

    private boolean isPair(int one, int other) {
        Rows rows = book.rows;
        boolean sameHour = rows.glass[one] != rows.glass[other] && rows.hour[one] == rows.hour[other];
        return sameHour && rowDeeps[one] != NOTHING && rowDeeps[other] != NOTHING;
    }

    /** The first WEEK in which each GLASS is SAID (WEEKS: never). */
    private void findSaid(int curve, int bar) {
        Arrays.fill(firstWeeks, WEEKS);
        for (int row = 0; row < book.rows.size; row++) {
            int glass = book.rows.glass[row];
            if (isGlass(glass) && look(curve, row, NONE) && view.isNotBelow(bar)) {
                firstWeeks[glass] = Math.min(firstWeeks[glass], book.rows.known[row]);
            }
        }
    }

    private int begunUpTo(int week) {
        int begun = 0;
        for (int i = 0; i < firstWeeks.length; i++) {
            begun += firstWeeks[i] <= week ? 1 : 0;
        }
        return begun;
    }

    public int said(int curve, int week, int bar) {
        if (curves.at(curve) == null || !isWeek(week) || !isBar(bar)) {
            return NONE;
        }
        findSaid(curve, bar);
        return begunUpTo(week);
    }

    public int weeks(int curve, int from, int to, int bar, int glasses, int what) {
        boolean span = isWeek(from) && isWeek(to) && from <= to && to - from < 100;
        if (curves.at(curve) == null || !span || !isBar(bar) || !isIn(glasses, 1, GLASSES) || !isIn(what, 0, 1)) {
            return NONE;
        }
        findSaid(curve, bar);
        int first = -2;
        int turns = 0;
        for (int week = from; week <= to; week++) {
            int now = begunUpTo(week);
            if (first == -2 && now >= glasses) {
                first = week;
            }
            turns += week > from && now != begunUpTo(week - 1) ? 1 : 0;
        }
        return what == 0 ? first : turns;
    }

    public int odd(int curve, int glass) {
        if (curves.at(curve) == null || !isGlass(glass)) {
            return NONE;
        }
        findDeeps(curve);
        int many = 0;
        for (int row = 0; row < book.rows.size; row++) {
            if (book.rows.glass[row] == glass && rowDeeps[row] != NOTHING) {
                sortIn(many, rowDeeps[row]);
                many++;
            }
        }
        return many < 3 ? -2 : farthestFrom(sorted[(many - 1) / 2], glass);
    }

    /** Puts n among the first many of the sorted ones. */
    private void sortIn(int many, int n) {
        int place = Math.min(many, sorted.length - 1);
        while (place > 0 && sorted[place - 1] > n) {
            sorted[place] = sorted[place - 1];
            place--;
        }
        sorted[place] = n;
    }

    private int farthestFrom(int middle, int glass) {
        int odd = NONE;
        int farthest = -1;
        for (int row = 0; row < book.rows.size; row++) {
            int away = Math.abs(rowDeeps[row] - middle);
            if (book.rows.glass[row] == glass && rowDeeps[row] != NOTHING && away > farthest) {
                odd = row;
                farthest = away;
            }
        }
        return odd;
    }

    // ---- RIPPLE SOUGHT ----

    public long ripple(int curve, int row, int what) {
        if (!isIn(what, 0, 1) || !look(curve, row, NONE)) {
            return -2;
        }
        if (!view.isLaid()) {
            return NONE;
        }
        int period = rests.found(view);
        return what == 0 ? period : rests.power(view, period);
    }

    public int smooth(int curve, int row) {
        if (!look(curve, row, NONE)) {
            return WRONG;
        }
        if (!view.hasDeep()) {
            return NOTHING;
        }
        int period = rests.found(view);
        rests.gather(view, period);
        long left = 0;
        for (int colour = Math.max(0, view.gapFrom); colour <= view.gapTo && colour < COLOURS; colour++) {
            if (view.told[colour]) {
                left += view.leftAt(colour) - rests.meanAt(colour % Math.max(1, period));
            }
        }
        return (int) Math.floorDiv(-left, (long) Math.max(1, view.gapCount));
    }

    // ---- SLIPS ----

    public int without(int curve, int row, int slip) {
        if (!book.slips.has(slip) || !look(curve, row, slip)) {
            return WRONG;
        }
        return view.deepness();
    }

    public int weightiest(int curve, int row) {
        if (!look(curve, row, NONE)) {
            return NONE;
        }
        if (!view.hasDeep()) {
            return -2;
        }
        int deep = view.deepness();
        int weightiest = -2;
        int most = -1;
        for (int slip = 0; slip < book.slips.size; slip++) {
            book.readRow(row, slip, view.told, view.seen);
            view.tally();
            view.lay();
            int unlike = Math.abs(view.deepness() - deep);
            if (view.hasDeep() && unlike > most) {
                weightiest = slip;
                most = unlike;
            }
        }
        return weightiest;
    }

    // ---- HOUSES ----

    public int house(int curve, int bar, int glasses) {
        if (curves.at(curve) == null || !isBar(bar) || !isIn(glasses, 1, ALL_GLASSES)) {
            return NONE;
        }
        return book.houses.add(curve, bar, glasses, 0);
    }

    /** The first WEEK in which a HOUSE says so (WEEKS: never). */
    private int firstOf(int house) {
        int curve = book.houses.cell(house, Book.HOUSE_CURVE);
        int bar = book.houses.cell(house, Book.HOUSE_BAR);
        int glasses = book.houses.cell(house, Book.HOUSE_GLASSES);
        int first = WEEKS;
        for (int row = 0; row < book.rows.size; row++) {
            boolean asked = (glasses >> book.rows.glass[row] & 1) == 1;
            if (asked && book.rows.known[row] < first && look(curve, row, NONE) && view.isNotBelow(bar)) {
                first = book.rows.known[row];
            }
        }
        return first;
    }

    private void findHouses() {
        Arrays.fill(firstWeeks, WEEKS);
        for (int house = 0; house < book.houses.size && house < firstWeeks.length; house++) {
            firstWeeks[house] = firstOf(house);
        }
    }

    public int says(int house, int week) {
        if (!book.houses.has(house) || !isWeek(week)) {
            return NONE;
        }
        return firstOf(house) <= week ? 1 : 0;
    }

    public int agreed(int week) {
        if (!isWeek(week)) {
            return NONE;
        }
        findHouses();
        for (int early = 0; early <= week; early++) {
            if (2 * begunUpTo(early) > book.houses.size) {
                return early;
            }
        }
        return -2;
    }

    public int alone(int week) {
        if (!isWeek(week)) {
            return NONE;
        }
        findHouses();
        if (begunUpTo(week) != 1) {
            return -2;
        }
        int alone = -2;
        for (int house = 0; house < firstWeeks.length; house++) {
            if (firstWeeks[house] <= week) {
                alone = house;
            }
        }
        return alone;
    }

    // ---- CANDIDATES ----

    public int candidate(int glass, int hours) {
        if (!isGlass(glass) || !isIn(hours, 1, 99)) {
            return NONE;
        }
        return book.candidates.add(glass, hours, 0, 0);
    }

    /** The mean NOISE of all ROWS of a GLASS with a CURVE, downwards (0: there are none). */
    private long meanNoise(int curve, int glass) {
        long noise = 0;
        int rows = 0;
        for (int row = 0; row < book.rows.size; row++) {
            if (book.rows.glass[row] == glass && look(curve, row, NONE) && view.isLaid()) {
                noise += view.noisiness();
                rows++;
            }
        }
        return rows == 0 ? 0 : noise / rows;
    }

    private void findWorths(int curve) {
        for (int glass = 0; glass < GLASSES; glass++) {
            long noise = meanNoise(curve, glass);
            for (int i = 0; i < book.candidates.size && i < worths.length; i++) {
                if (book.candidates.cell(i, Book.CANDIDATE_GLASS) == glass) {
                    long hours = book.candidates.cell(i, Book.CANDIDATE_HOURS);
                    worths[i] = noise < 1 ? 0 : hours * 1000000 / noise;
                }
            }
        }
    }

    private int hoursOf(int set) {
        int hours = 0;
        for (int i = 0; i < book.candidates.size; i++) {
            hours += (set >> i & 1) * book.candidates.cell(i, Book.CANDIDATE_HOURS);
        }
        return hours;
    }

    private long worthOf(int set) {
        long worth = 0;
        for (int i = 0; i < book.candidates.size && i < worths.length; i++) {
            worth += (set >> i & 1) * worths[i];
        }
        return worth;
    }

    public long next(int curve, int hours, int what) {
        if (curves.at(curve) == null || !isIn(hours, 0, 999) || !isIn(what, 0, 1)) {
            return NONE;
        }
        findWorths(curve);
        int chosen = 0;
        int chosenHours = 0;
        long most = 0;
        for (int set = 1; set < 1 << book.candidates.size; set++) {
            int needed = hoursOf(set);
            long worth = worthOf(set);
            if (needed <= hours && (worth > most || (worth == most && needed < chosenHours))) {
                chosen = set;
                chosenHours = needed;
                most = worth;
            }
        }
        return what == 0 ? chosen : most;
    }

    // ---- WAYS ----

    public int told(int what, int n) {
        if (!isIn(what, 0, book.told.length - 1) || !isIn(n, 0, 9999)) {
            return NONE;
        }
        int before = book.told[what];
        book.told[what] = n;
        return before;
    }

    private int givenBy(Text way) {
        sums.setWeather(book);
        long sum = 0;
        for (int clause = 0; clause < way.clauses && clause < MOST_CLAUSES; clause++) {
            sum += sums.holds(way, clause) ? sums.sumOf(way, clause) : 0;
        }
        return (int) held(sum, 0, 99999999);
    }

    /** What each WAY gives; answers all of it together. */
    private long findGiven() {
        long all = 0;
        for (int way = 0; way < ways.size && way < given.length; way++) {
            Text text = ways.at(way);
            given[way] = text == null ? 0 : givenBy(text);
            all += given[way];
        }
        return all;
    }

    public int gives(int way) {
        Text text = ways.at(way);
        return text == null ? NONE : givenBy(text);
    }

    public int brief(int need) {
        if (!isNeed(need)) {
            return NONE;
        }
        return (int) Math.max(0L, need - findGiven());
    }

    public int fewest(int need, int what) {
        if (!isNeed(need) || !isIn(what, 0, 1)) {
            return NONE;
        }
        if (findGiven() < need) {
            return -2;
        }
        int chosen = NONE;
        int least = 0;
        long most = 0;
        for (int set = 0; set < 1 << ways.size; set++) {
            int many = Integer.bitCount(set);
            long sum = givenTogether(set);
            boolean better = chosen == NONE || many < least || (many == least && sum > most);
            if (sum >= need && better) {
                chosen = set;
                least = many;
                most = sum;
            }
        }
        return what == 0 ? least : chosen;
    }

    private long givenTogether(int set) {
        long sum = 0;
        for (int way = 0; way < given.length; way++) {
            sum += (set >> way & 1) * given[way];
        }
        return sum;
    }

    // ---- counts and IMAGES ----

    public int count(int what) {
        switch (what) {
            case 0: return book.now;
            case 1: return book.rows.size;
            case 2: return book.slips.size;
            case 3: return book.lines.size;
            case 4: return laws.size;
            case 5: return curves.size;
            case 6: return ways.size;
            case 7: return book.candidates.size;
            case 8: return book.rows.numbers;
            case 9: return book.taped;
            case 10: return book.houses.size;
            default: return NONE;
        }
    }

    public int image(int k) {
        if (!isIn(k, 0, IMAGES - 1)) {
            return NONE;
        }
        if (images[k] == null) {
            images[k] = new Book();
        }
        images[k].copyFrom(book);
        return book.rows.size;
    }

    public int back(int k) {
        if (!isIn(k, 0, IMAGES - 1) || images[k] == null) {
            return NONE;
        }
        book.copyFrom(images[k]);
        return book.rows.size;
    }

    // ---- what is as told ----

    private static boolean isIn(int n, int least, int most) {
        return n >= least && n <= most;
    }

    private static boolean isWeek(int n) {
        return isIn(n, 0, WEEKS - 1);
    }

    private static boolean isColour(int n) {
        return isIn(n, 0, COLOURS - 1);
    }

    private static boolean isGlass(int n) {
        return isIn(n, 0, GLASSES - 1);
    }

    private static boolean isStuff(int n) {
        return isIn(n, 0, STUFFS - 1);
    }

    private static boolean isBar(int n) {
        return isIn(n, -MOST_BAR, MOST_BAR);
    }

    private static boolean isNeed(int n) {
        return isIn(n, 0, 999999999);
    }

    private static boolean isSpan(int from, int to) {
        return isColour(from) && isColour(to) && from <= to;
    }

    private static long held(long n, long least, long most) {
        return Math.max(least, Math.min(most, n));
    }

    /** All that an IMAGE holds: everything but the texts. */
    private static final class Book {
        private static final int SLIP_GLASS = 0;
        private static final int SLIP_FROM = 1;
        private static final int SLIP_TO = 2;
        private static final int SLIP_N = 3;
        private static final int LINE_STUFF = 0;
        private static final int LINE_COLOUR = 1;
        private static final int LINE_DEPTH = 2;
        private static final int HOUSE_CURVE = 0;
        private static final int HOUSE_BAR = 1;
        private static final int HOUSE_GLASSES = 2;
        private static final int CANDIDATE_GLASS = 0;
        private static final int CANDIDATE_HOURS = 1;

        private int now;
        private final int[] told = new int[4];
        private final Rows rows = new Rows();
        private final Table slips = new Table(40);
        private final Table lines = new Table(60);
        private final Table candidates = new Table(10);
        private final Table houses = new Table(8);
        private final int[] tape = new int[MOST_BYTES];
        private int taped;

        private void copyFrom(Book other) {
            now = other.now;
            System.arraycopy(other.told, 0, told, 0, told.length);
            rows.copyFrom(other.rows);
            slips.copyFrom(other.slips);
            lines.copyFrom(other.lines);
            candidates.copyFrom(other.candidates);
            houses.copyFrom(other.houses);
            System.arraycopy(other.tape, 0, tape, 0, MOST_BYTES);
            taped = other.taped;
        }

        private void append(int four) {
            for (int shift = 24; shift >= 0 && taped < MOST_BYTES; shift -= 8) {
                tape[taped] = four >> shift & 255;
                taped++;
            }
        }

        /** A byte of the TAPE, or -1 behind its last one. */
        private int byteAt(int place) {
            return place >= 0 && place < taped && place < MOST_BYTES ? tape[place] : -1;
        }

        private boolean hasLine(int stuff, int colour) {
            boolean has = false;
            for (int line = 0; line < lines.size; line++) {
                has |= lines.cell(line, LINE_STUFF) == stuff && lines.cell(line, LINE_COLOUR) == colour;
            }
            return has;
        }

        /** All SLIPS of a GLASS that go over a COLOUR, together. */
        private int slipped(int glass, int colour) {
            int sum = 0;
            for (int slip = 0; slip < slips.size; slip++) {
                boolean over = slips.cell(slip, SLIP_FROM) <= colour && colour <= slips.cell(slip, SLIP_TO);
                sum += over && slips.cell(slip, SLIP_GLASS) == glass ? slips.cell(slip, SLIP_N) : 0;
            }
            return sum;
        }

        /** READ of a whole ROW, without one SLIP (NONE: with all): where there is a number, and which. */
        private void readRow(int row, int leftOut, boolean[] toldAt, int[] seen) {
            if (!rows.has(row)) {
                return;
            }
            for (int colour = 0; colour < COLOURS; colour++) {
                int n = rows.raw[row][colour];
                toldAt[colour] = n != NOTHING;
                seen[colour] = n;
            }
            for (int slip = 0; slip < slips.size; slip++) {
                if (slip != leftOut && slips.cell(slip, SLIP_GLASS) == rows.glass[row]) {
                    takeOff(slip, seen);
                }
            }
        }

        private void takeOff(int slip, int[] seen) {
            int n = slips.cell(slip, SLIP_N);
            int to = Math.min(COLOURS - 1, slips.cell(slip, SLIP_TO));
            for (int colour = Math.max(0, slips.cell(slip, SLIP_FROM)); colour <= to; colour++) {
                seen[colour] -= n;
            }
        }
    }

    /** The ROWS: RAW is NOTHING where there is no number. */
    private static final class Rows {
        private int size;
        private int numbers;
        private final int[] glass = new int[ROWS];
        private final int[] hour = new int[ROWS];
        private final int[] known = new int[ROWS];
        private final int[][] raw = new int[ROWS][COLOURS];

        private boolean has(int row) {
            return row >= 0 && row < size;
        }

        private int add(int ofGlass, int atHour, int week) {
            if (size >= ROWS) {
                return NONE;
            }
            glass[size] = ofGlass;
            hour[size] = atHour;
            known[size] = week;
            // a ROW that was there before an IMAGE was gone back to may have left numbers
            Arrays.fill(raw[size], NOTHING);
            size++;
            return size - 1;
        }

        /** What there was; whoever calls has seen that there are such a ROW and COLOUR. */
        private int put(int row, int colour, int n) {
            if (!has(row) || !isColour(colour)) {
                return NOTHING;
            }
            int before = raw[row][colour];
            raw[row][colour] = n;
            numbers += (n == NOTHING ? 0 : 1) - (before == NOTHING ? 0 : 1);
            return before;
        }

        private void copyFrom(Rows other) {
            size = other.size;
            numbers = other.numbers;
            System.arraycopy(other.glass, 0, glass, 0, ROWS);
            System.arraycopy(other.hour, 0, hour, 0, ROWS);
            System.arraycopy(other.known, 0, known, 0, ROWS);
            for (int row = 0; row < size; row++) {
                System.arraycopy(other.raw[row], 0, raw[row], 0, COLOURS);
            }
        }
    }

    /** Entries of up to four numbers each, as many as it was made for. */
    private static final class Table {
        private static final int COLUMNS = 4;
        private final int most;
        private final int[] cells;
        private int size;

        private Table(int entries) {
            most = Math.max(0, entries);
            cells = new int[most * COLUMNS];
        }

        private boolean has(int entry) {
            return entry >= 0 && entry < size;
        }

        private int add(int a, int b, int c, int d) {
            if (size >= most) {
                return NONE;
            }
            int entry = size;
            size++;
            set(entry, 0, a);
            set(entry, 1, b);
            set(entry, 2, c);
            set(entry, 3, d);
            return entry;
        }

        private int cell(int entry, int column) {
            boolean there = entry >= 0 && entry < size && column >= 0 && column < COLUMNS;
            return there ? cells[entry * COLUMNS + column] : 0;
        }

        private void set(int entry, int column, int n) {
            if (has(entry) && column >= 0 && column < COLUMNS) {
                cells[entry * COLUMNS + column] = n;
            }
        }

        private void copyFrom(Table other) {
            size = Math.min(most, other.size);
            System.arraycopy(other.cells, 0, cells, 0, Math.min(cells.length, other.cells.length));
        }
    }

    /** The texts of one sort that have come to stand. */
    private static final class Texts {
        private final Text[] kept;
        private int size;

        private Texts(int most) {
            kept = new Text[Math.max(0, most)];
        }

        private boolean isFull() {
            return size >= kept.length;
        }

        private int keep(Text text) {
            if (isFull()) {
                return NONE;
            }
            kept[size] = text;
            size++;
            return size - 1;
        }

        private Text at(int n) {
            return n >= 0 && n < size && n < kept.length ? kept[n] : null;
        }
    }

    /**
     * The CLAUSES of a text. SUM and TEST of a CLAUSE are steps, each behind what it works on: a step is what to do
     * and, times 16, which number or word.
     */
    private static final class Text {
        private int clauses;
        private final int[] head = new int[MOST_CLAUSES];
        private final int[] first = new int[MOST_CLAUSES];
        private final int[] second = new int[MOST_CLAUSES];
        private final int[] sumAt = new int[MOST_CLAUSES];
        private final int[] testAt = new int[MOST_CLAUSES];
        private final int[] endAt = new int[MOST_CLAUSES];
        // every step comes of a byte of its own
        private final int[] steps = new int[MOST_BYTES];
        private int length;

        private void wipe() {
            clauses = 0;
            length = 0;
        }

        private void step(int what, int which) {
            if (length < steps.length) {
                steps[length] = what + 16 * which;
                length++;
            }
        }

        /** Another CLAUSE begins; whoever calls has seen that there is room. */
        private void open(int word) {
            if (clauses < MOST_CLAUSES) {
                head[clauses] = word;
                sumAt[clauses] = length;
                testAt[clauses] = length;
                endAt[clauses] = length;
                clauses++;
            }
        }

        /** Which CLAUSE is the first with this head, or NONE. */
        private int clauseOf(int word) {
            for (int clause = 0; clause < clauses && clause < MOST_CLAUSES; clause++) {
                if (head[clause] == word) {
                    return clause;
                }
            }
            return NONE;
        }

        private int firstOf(int word, int otherwise) {
            int clause = clauseOf(word);
            return clause < 0 ? otherwise : first[clause];
        }

        private int secondOf(int word, int otherwise) {
            int clause = clauseOf(word);
            return clause < 0 ? otherwise : second[clause];
        }
    }

    /** Bytes cut into NUMBERS, WORDS and signs, with the place of each. */
    private static final class Tokens {
        private static final int TOO_LONG = -1;
        private final int[] kind = new int[MOST_BYTES + 1];
        private final int[] place = new int[MOST_BYTES + 1];
        private final int[] value = new int[MOST_BYTES + 1];
        private int size;

        private void cut(Book book) {
            size = 0;
            int at = 0;
            while (at < book.taped) {
                int from = at;
                int sort = sortOf(book.byteAt(at));
                at++;
                if (sort == NUMBER || sort == WORD) {
                    while (at < book.taped && sortOf(book.byteAt(at)) == sort) {
                        at++;
                    }
                    add(sort, from, sort == NUMBER ? numberIn(book, from, at) : wordIn(book, from, at));
                } else if ((sort == BELOW || sort == ABOVE) && book.byteAt(at) == '=') {
                    at++;
                    add(sort == BELOW ? NOT_ABOVE : NOT_BELOW, from, 0);
                } else if (book.byteAt(from) != ' ') {
                    add(sort, from, 0);
                }
            }
            add(END, book.taped, 0);
        }

        private void add(int sort, int from, int n) {
            if (size < kind.length) {
                kind[size] = sort;
                place[size] = from;
                value[size] = n;
                size++;
            }
        }

        private static int sortOf(int sign) {
            if (sign >= '0' && sign <= '9') {
                return NUMBER;
            }
            if (sign >= 'a' && sign <= 'z') {
                return WORD;
            }
            switch (sign) {
                case '+': return PLUS;
                case '-': return MINUS;
                case '*': return TIMES;
                case '/': return OVER;
                case '<': return BELOW;
                case '=': return EQUAL;
                case '>': return ABOVE;
                case '[': return OPEN;
                case ']': return CLOSE;
                case ';': return NEXT_CLAUSE;
                default: return BAD;
            }
        }

        private static int numberIn(Book book, int from, int to) {
            if (to - from > 5) {
                return TOO_LONG;
            }
            int n = 0;
            for (int at = from; at < to; at++) {
                n = n * 10 + book.byteAt(at) - '0';
            }
            return n;
        }

        private static int wordIn(Book book, int from, int to) {
            for (int word = 0; word < SPELLED; word++) {
                if (isSpelled(book, from, to, spelling(word))) {
                    return word;
                }
            }
            return UNKNOWN;
        }

        private static boolean isSpelled(Book book, int from, int to, String word) {
            boolean same = word.length() == to - from;
            for (int i = 0; same && i < word.length(); i++) {
                same = book.byteAt(from + i) == word.charAt(i);
            }
            return same;
        }

        private static String spelling(int word) {
            switch (word) {
                case SHINE: return "shine";
                case RIPPLE: return "ripple";
                case NOISE: return "noise";
                case EATS: return "eats";
                case BENDS: return "bends";
                case GAP: return "gap";
                case WIDE: return "wide";
                case SKIP: return "skip";
                case GIVES: return "gives";
                case IF: return "if";
                case OR: return "or";
                case AND: return "and";
                case NOT: return "not";
                case COLOUR_WORD: return "colour";
                case COLOUR_WORD + 1: return "glass";
                case COLOUR_WORD + 2: return "hour";
                case ROW_WORD: return "row";
                case LIGHT_WORD: return "light";
                case LIGHT_WORD + 1: return "heat";
                case LIGHT_WORD + 2: return "storm";
                case LIGHT_WORD + 3: return "fall";
                case WEEK_WORD: return "week";
                default: return "";
            }
        }
    }

    /** Reads a text from its first byte on and stops at its first FAULT. */
    private static final class Parser {
        private final Tokens tokens = new Tokens();
        private Text text = new Text();
        private int sort;
        private int at;
        private int items;
        private int fault;

        /** Its FAULT, or 0: then the text stands in what was given. */
        private int parse(Book book, int ofSort, Text into) {
            tokens.cut(book);
            text = into;
            sort = ofSort;
            at = 0;
            items = 0;
            fault = 0;
            for (int n = 0; n <= MOST_CLAUSES; n++) {
                if (!head() || !body()) {
                    return fault;
                }
                if (kindHere() == END) {
                    return 0;
                }
                if (kindHere() != NEXT_CLAUSE) {
                    faultHere(CANNOT_STAND);
                    return fault;
                }
                at++;
            }
            return fault;
        }

        private int kindHere() {
            return at >= 0 && at < tokens.size ? tokens.kind[at] : END;
        }

        private int valueHere() {
            return at >= 0 && at < tokens.size ? tokens.value[at] : 0;
        }

        private boolean isWordHere(int word) {
            return kindHere() == WORD && valueHere() == word;
        }

        private boolean faultHere(int which) {
            int place = at >= 0 && at < tokens.size ? tokens.place[at] : 0;
            fault = 1 + 8 * place + which;
            return false;
        }

        private boolean isHead(int word) {
            switch (sort) {
                case LAW: return word >= SHINE && word <= EATS;
                case CURVE: return word >= BENDS && word <= SKIP;
                default: return word == GIVES;
            }
        }

        private static boolean isOnce(int head) {
            return head == RIPPLE || head == NOISE || head == BENDS || head == GAP || head == WIDE;
        }

        private boolean head() {
            int word = valueHere();
            if (kindHere() != WORD || !isHead(word)) {
                return faultHere(CANNOT_STAND);
            }
            int clause = text.clauses;
            if (clause >= MOST_CLAUSES || (isOnce(word) && text.clauseOf(word) >= 0)) {
                return faultHere(TOO_MANY_CLAUSES);
            }
            at++;
            text.open(word);
            return true;
        }

        /** What stands behind the head of the last CLAUSE. */
        private boolean body() {
            int clause = Math.max(0, text.clauses - 1);
            int word = text.head[clause];
            boolean stands;
            if (word == SKIP) {
                stands = test(0);
            } else if (word == SHINE || word == GIVES) {
                stands = sum();
                text.testAt[clause] = text.length;
                if (stands && isWordHere(IF)) {
                    at++;
                    stands = test(0);
                }
            } else {
                stands = numbers(word, clause);
            }
            text.endAt[clause] = text.length;
            return stands;
        }

        private boolean numbers(int word, int clause) {
            switch (word) {
                case RIPPLE: return number(text.first, clause, 2, MOST_PERIOD) && number(text.second, clause, 0, 9999);
                case NOISE: return number(text.first, clause, 0, 9999);
                case EATS: return number(text.first, clause, 0, STUFFS - 1) && number(text.second, clause, 0, 9999);
                case BENDS: return number(text.first, clause, 0, MOST_BENDS);
                case GAP: return number(text.first, clause, 0, COLOURS - 1)
                        && number(text.second, clause, text.first[clause], COLOURS - 1);
                default: return number(text.first, clause, 0, 50);
            }
        }

        private boolean number(int[] into, int clause, int least, int most) {
            if (kindHere() != NUMBER) {
                return faultHere(CANNOT_STAND);
            }
            // a NUMBER that is too long stands as -1, below every least one
            int n = valueHere();
            if (n < least || n > most) {
                return faultHere(NOT_AS_TOLD);
            }
            into[clause] = n;
            at++;
            return true;
        }

        private boolean test(int depth) {
            boolean joins = false;
            for (int part = 0; part <= MOST_ITEMS; part++) {
                if (!fact(depth)) {
                    return false;
                }
                for (int n = 0; n <= MOST_ITEMS && isWordHere(AND); n++) {
                    at++;
                    if (!fact(depth)) {
                        return false;
                    }
                    text.step(BOTH, 0);
                }
                if (joins) {
                    text.step(EITHER, 0);
                }
                if (!isWordHere(OR)) {
                    return true;
                }
                joins = true;
                at++;
            }
            return faultHere(CANNOT_STAND);
        }

        private boolean fact(int depth) {
            if (isWordHere(NOT) || kindHere() == OPEN) {
                return depth < MOST_DEPTH ? inner(depth + 1) : faultHere(TOO_DEEP);
            }
            if (!sum()) {
                return false;
            }
            int sign = kindHere();
            if (sign < BELOW || sign > ABOVE) {
                return faultHere(CANNOT_STAND);
            }
            if (items >= MOST_ITEMS) {
                return faultHere(TOO_MANY_ITEMS);
            }
            items++;
            at++;
            if (!sum()) {
                return false;
            }
            text.step(sign, 0);
            return true;
        }

        /** A FACT behind not, or a TEST between brackets. */
        private boolean inner(int depth) {
            boolean turned = kindHere() == WORD;
            at++;
            boolean stands = turned ? fact(depth) : test(depth);
            if (!stands) {
                return false;
            }
            if (turned) {
                text.step(TURNED, 0);
                return true;
            }
            if (kindHere() != CLOSE) {
                return faultHere(CANNOT_STAND);
            }
            at++;
            return true;
        }

        private boolean sum() {
            int joins = END;
            for (int term = 0; term <= MOST_ITEMS; term++) {
                if (!value()) {
                    return false;
                }
                for (int n = 0; n <= MOST_ITEMS && (kindHere() == TIMES || kindHere() == OVER); n++) {
                    int sign = kindHere();
                    at++;
                    if (!value()) {
                        return false;
                    }
                    text.step(sign, 0);
                }
                if (joins != END) {
                    text.step(joins, 0);
                }
                joins = kindHere();
                if (joins != PLUS && joins != MINUS) {
                    return true;
                }
                at++;
            }
            return faultHere(CANNOT_STAND);
        }

        private boolean value() {
            int kind = kindHere();
            int n = valueHere();
            int least = sort == WAY ? LIGHT_WORD : COLOUR_WORD;
            int most = sort == WAY ? WEEK_WORD : ROW_WORD;
            boolean isValue = kind == NUMBER || (kind == WORD && n >= least && n <= most);
            if (!isValue) {
                return faultHere(CANNOT_STAND);
            }
            if (kind == NUMBER && n == Tokens.TOO_LONG) {
                return faultHere(NOT_AS_TOLD);
            }
            if (items >= MOST_ITEMS) {
                return faultHere(TOO_MANY_ITEMS);
            }
            items++;
            at++;
            text.step(kind, kind == NUMBER ? n : n - least);
            return true;
        }
    }

    /** Works out SUMS and TESTS with what the WORDS are worth. */
    private static final class Sums {
        private final long[] words = new long[5];
        // only VALUES come upon it
        private final long[] stack = new long[MOST_ITEMS];

        private void setRow(Rows rows, int row) {
            if (rows.has(row)) {
                words[1] = rows.glass[row];
                words[2] = rows.hour[row];
                words[3] = row;
            }
        }

        private void setColour(int colour) {
            words[0] = colour;
        }

        private void setWeather(Book book) {
            for (int i = 0; i < book.told.length && i < words.length; i++) {
                words[i] = book.told[i];
            }
            words[4] = book.now;
        }

        /** Whether a CLAUSE has no TEST, or its TEST holds. */
        private boolean holds(Text text, int clause) {
            int from = text.testAt[clause];
            int to = text.endAt[clause];
            return from >= to || worked(text, from, to) != 0;
        }

        private long sumOf(Text text, int clause) {
            return worked(text, text.sumAt[clause], text.testAt[clause]);
        }

        private long worked(Text text, int from, int to) {
            int top = 0;
            for (int at = Math.max(0, from); at < to && at < text.steps.length; at++) {
                int what = text.steps[at] & 15;
                int which = text.steps[at] >> 4;
                if (what == NUMBER || what == WORD) {
                    if (top < stack.length) {
                        stack[top] = what == NUMBER ? which : wordAt(which);
                        top++;
                    }
                } else if (what == TURNED) {
                    if (top > 0) {
                        stack[top - 1] = 1 - stack[top - 1];
                    }
                } else if (top > 1) {
                    top--;
                    stack[top - 1] = joined(what, stack[top - 1], stack[top]);
                }
            }
            return top > 0 ? stack[top - 1] : 0;
        }

        private long wordAt(int which) {
            return which >= 0 && which < words.length ? words[which] : 0;
        }

        private static long joined(int what, long a, long b) {
            switch (what) {
                case PLUS: return a + b;
                case MINUS: return a - b;
                case TIMES: return a * b;
                case OVER: return b == 0 ? 0 : a / b;
                case BELOW: return a < b ? 1 : 0;
                case NOT_ABOVE: return a <= b ? 1 : 0;
                case EQUAL: return a == b ? 1 : 0;
                case NOT_BELOW: return a >= b ? 1 : 0;
                case ABOVE: return a > b ? 1 : 0;
                case BOTH: return a & b;
                default: return a | b;
            }
        }
    }

    /** Makes numbers by a LAW, COLOUR by COLOUR. */
    private static final class Maker {
        private final int[] eaten = new int[COLOURS];
        private int period;
        private int swing;
        private int noise;
        private long x;

        private void begin(Text law, int seed) {
            period = law.firstOf(RIPPLE, 0);
            swing = law.secondOf(RIPPLE, 0);
            noise = law.firstOf(NOISE, 0);
            x = seed;
        }

        private void eatNothing() {
            Arrays.fill(eaten, 0);
        }

        private void eat(Text law, Table lines) {
            eatNothing();
            for (int clause = 0; clause < law.clauses && clause < MOST_CLAUSES; clause++) {
                for (int line = 0; law.head[clause] == EATS && line < lines.size; line++) {
                    int colour = lines.cell(line, Book.LINE_COLOUR);
                    if (lines.cell(line, Book.LINE_STUFF) == law.first[clause] && isColour(colour)) {
                        eaten[colour] += law.second[clause] * lines.cell(line, Book.LINE_DEPTH) / 1000;
                    }
                }
            }
        }

        private int makeAt(Text law, Sums sums, int colour) {
            sums.setColour(colour);
            long light = held(shineOf(law, sums), -50000, 50000) - eaten[colour] + swingAt(colour);
            x = (x * 1103515245L + 12345L) % 2147483648L;
            light += x / 65536 % (2L * noise + 1) - noise;
            return (int) held(light, -MOST_RAW, MOST_RAW);
        }

        private static long shineOf(Text law, Sums sums) {
            for (int clause = 0; clause < law.clauses && clause < MOST_CLAUSES; clause++) {
                if (law.head[clause] == SHINE && sums.holds(law, clause)) {
                    return sums.sumOf(law, clause);
                }
            }
            return 0;
        }

        private int swingAt(int colour) {
            if (period < 1) {
                return 0;
            }
            int rest = colour % period;
            return 2 * swing * Math.min(rest, period - rest) / period - swing / 2;
        }
    }

    /** A ROW as a CURVE sees it. When gap, bends or READ are others, the CURVE is laid anew. */
    private static final class View {
        private final boolean[] told = new boolean[COLOURS];
        private final boolean[] skipped = new boolean[COLOURS];
        private final boolean[] used = new boolean[COLOURS];
        private final int[] seen = new int[COLOURS];
        private final int[] height = new int[COLOURS];
        // of the COLOURS with a number that are not skipped: how many lie ahead of a COLOUR, and their READ together
        private final int[] openAhead = new int[COLOURS + 1];
        private final int[] sumAhead = new int[COLOURS + 1];
        private final int[] knotColour = new int[MOST_BENDS + 2];
        private final int[] knotHeight = new int[MOST_BENDS + 2];
        private int bends;
        private int wide;
        private int gapFrom;
        private int gapTo;
        private int knots;
        private int gapCount;
        private int usedCount;
        private long gapLeft;
        private long usedLeft;

        private void skipBy(Text curve, Sums sums) {
            for (int colour = 0; colour < COLOURS; colour++) {
                skipped[colour] = false;
            }
            for (int clause = 0; clause < curve.clauses && clause < MOST_CLAUSES; clause++) {
                for (int colour = 0; curve.head[clause] == SKIP && colour < COLOURS; colour++) {
                    sums.setColour(colour);
                    skipped[colour] |= sums.worked(curve, curve.testAt[clause], curve.endAt[clause]) != 0;
                }
            }
        }

        private void frameBy(Text curve) {
            bends = curve.firstOf(BENDS, 12);
            wide = curve.firstOf(WIDE, 3);
            gapFrom = curve.firstOf(GAP, 140);
            gapTo = curve.secondOf(GAP, 159);
        }

        private int gapLength() {
            return gapTo - gapFrom + 1;
        }

        private boolean isInGap(int colour) {
            return colour >= gapFrom && colour <= gapTo;
        }

        private boolean isTold(int colour) {
            return isColour(colour) && told[colour];
        }

        private boolean isUsed(int colour) {
            return isColour(colour) && used[colour];
        }

        private int leftAt(int colour) {
            return isColour(colour) ? seen[colour] - height[colour] : 0;
        }

        /** To be called when READ, or where there is a number, is another. */
        private void tally() {
            for (int colour = 0; colour < COLOURS; colour++) {
                boolean open = told[colour] && !skipped[colour];
                openAhead[colour + 1] = openAhead[colour] + (open ? 1 : 0);
                sumAhead[colour + 1] = sumAhead[colour] + (open ? seen[colour] : 0);
            }
        }

        private void moveTo(int from) {
            gapTo = from + gapTo - gapFrom;
            gapFrom = from;
            lay();
        }

        private void bendTo(int otherBends) {
            bends = otherBends;
            lay();
        }

        private void lay() {
            layKnots();
            layHeights();
            measure();
        }

        private void layKnots() {
            knots = 0;
            int parts = Math.max(1, bends + 1);
            for (int k = 0; k <= parts && k < knotColour.length; k++) {
                int colour = (COLOURS - 1) * k / parts;
                int from = Math.max(0, colour - wide);
                int to = Math.min(COLOURS, colour + wide + 1);
                int open = besideGap(openAhead, from, to);
                if (open > 0) {
                    knotColour[knots] = colour;
                    knotHeight[knots] = Math.floorDiv(besideGap(sumAhead, from, to), open);
                    knots++;
                }
            }
        }

        /** What comes together from a COLOUR up to, and without, another one where the gap is not. */
        private int besideGap(int[] ahead, int from, int to) {
            int gapAt = Math.max(from, gapFrom);
            int gapEnd = Math.min(to, gapTo + 1);
            int inGap = gapAt < gapEnd ? ahead[gapEnd] - ahead[gapAt] : 0;
            return ahead[to] - ahead[from] - inGap;
        }

        private void layHeights() {
            if (knots == 0) {
                return;
            }
            for (int colour = 0; colour < knotColour[0]; colour++) {
                height[colour] = knotHeight[0];
            }
            for (int k = 0; k + 1 < knots; k++) {
                layBetween(k, knotColour[k], knotColour[k + 1]);
            }
            for (int colour = knotColour[knots - 1]; colour < COLOURS; colour++) {
                height[colour] = knotHeight[knots - 1];
            }
        }

        private void layBetween(int knot, int from, int to) {
            int rise = knotHeight[knot + 1] - knotHeight[knot];
            int run = Math.max(1, to - from);
            for (int colour = from; colour < to; colour++) {
                height[colour] = knotHeight[knot] + Math.floorDiv(rise * (colour - from), run);
            }
        }

        private void measure() {
            gapCount = 0;
            usedCount = 0;
            gapLeft = 0;
            usedLeft = 0;
            for (int colour = 0; colour < COLOURS; colour++) {
                int left = seen[colour] - height[colour];
                boolean inGap = colour >= gapFrom && colour <= gapTo;
                used[colour] = told[colour] && !inGap && !skipped[colour];
                if (used[colour]) {
                    usedCount++;
                    usedLeft += Math.abs(left);
                } else if (inGap && told[colour]) {
                    gapCount++;
                    gapLeft += left;
                }
            }
        }

        private boolean isLaid() {
            return knots > 0;
        }

        private boolean hasDeep() {
            return knots > 0 && gapCount > 0;
        }

        /** DEEP, or NOTHING. */
        private int deepness() {
            return hasDeep() ? (int) Math.floorDiv(-gapLeft, (long) gapCount) : NOTHING;
        }

        private long noisiness() {
            int many = Math.max(1, usedCount);
            return Math.max(1L, (usedLeft + many - 1) / many);
        }

        /** SCORE, or NO_SCORE. */
        private long scored() {
            return hasDeep() ? Math.floorDiv(1000L * deepness(), noisiness()) : NO_SCORE;
        }

        /** Whether there is a SCORE that is not below a bar. */
        private boolean isNotBelow(long bar) {
            return hasDeep() && scored() >= bar;
        }

        private long squares() {
            long sum = 0;
            for (int colour = 0; colour < COLOURS; colour++) {
                long left = used[colour] ? seen[colour] - height[colour] : 0;
                sum += left * left;
            }
            return sum;
        }
    }

    /** LEFT at the USED COLOURS of a view, gathered by their rest by a period. */
    private static final class Rests {
        private final long[] left = new long[MOST_PERIOD];
        private final int[] many = new int[MOST_PERIOD];

        private void gather(View view, int period) {
            Arrays.fill(left, 0L);
            Arrays.fill(many, 0);
            int rest = 0;
            for (int colour = 0; colour < COLOURS; colour++) {
                if (view.used[colour]) {
                    left[rest] += view.seen[colour] - view.height[colour];
                    many[rest]++;
                }
                rest = rest + 1 < period && rest + 1 < MOST_PERIOD ? rest + 1 : 0;
            }
        }

        private long power(View view, int period) {
            gather(view, period);
            long power = 0;
            for (int rest = 0; rest < MOST_PERIOD; rest++) {
                power += many[rest] == 0 ? 0 : left[rest] * left[rest] / many[rest];
            }
            return power;
        }

        private int found(View view) {
            int found = 2;
            long most = power(view, 2);
            for (int period = 3; period <= MOST_PERIOD; period++) {
                long power = power(view, period);
                if (power > most) {
                    found = period;
                    most = power;
                }
            }
            return found;
        }

        private long meanAt(int rest) {
            boolean some = rest >= 0 && rest < MOST_PERIOD && many[rest] != 0;
            return some ? Math.floorDiv(left[rest], (long) many[rest]) : 0;
        }
    }
}
