import java.util.Arrays;

/**
 * A floor of small cut stones: what its text tells, which THING was laid ahead of which, hands, borders,
 * the book of patterns, LOST cells, stones, panels and sheets. The document's words are in capitals.
 */
public final class BeastFloor {
    public static final int BAD = -1, STATE = -2, FULL = -3, NONE = -4;

    private static final int LOST = -1;
    private static final int SIDE = 8;
    private static final int CELLS = 64;
    private static final int COLOURS = 6;
    private static final int WAYS = 8;
    private static final int MOST_THINGS = 12;
    private static final int MOST_PATTERNS = 4;
    private static final int PATTERN_SIDE = 4;
    private static final int PATTERN_CELLS = 16;
    private static final int PANELS = 4;
    private static final int SHEETS = 4;
    private static final int SURE_AGREES = 4;
    /** Put and at answer COLOURS down to -1, slips sums far below 0: so their BAD and STATE are others. */
    private static final int BAD_CELL = -9;
    private static final int BAD_SLIP = -1000000;
    private static final int STATE_SLIP = -1000002;

    private final Tape tape = new Tape();
    /** What is told, and the one that the next text is read into: a FAULT must leave what was told. */
    private Story story = new Story();
    private Story draft = new Story();
    private final Reader reader = new Reader(tape, draft);
    private final Sequence sequence = new Sequence();
    private final Floor floor = new Floor();
    private final Book book = new Book();
    private final Guess guess = new Guess();
    private final Border border = new Border();
    private final Panels panels = new Panels();
    private final Sheet[] sheets = new Sheet[SHEETS];
    private int torn;

    public BeastFloor() {
        for (int k = 0; k < SHEETS; k++) {
            sheets[k] = new Sheet();
        }
    }

    // ---- the text

    public int feed(long v) {
        return tape.append(v) ? tape.length() : FULL;
    }

    public int end(int n) {
        int had = tape.length();
        return tape.keep(n) ? had : BAD;
    }

    public int text() {
        reader.begin(draft);
        int lines = 0;
        // Each line has a byte at least.
        while (lines <= Tape.ROOM && reader.takeLine()) {
            lines++;
        }
        tape.keep(0);
        if (reader.faultFound() != 0) {
            return -10 - reader.faultPlace();
        }
        Story was = story;
        story = draft;
        draft = was;
        sequence.learn(story);
        book.learn(story);
        return lines;
    }

    public int fault() {
        return reader.faultFound();
    }

    public int told(int what) {
        switch (what) {
            case 0: return story.things();
            case 1: return story.patterns();
            case 2: return story.apart();
            default: break;
        }
        if (within(what, 10, 10 + COLOURS - 1)) {
            return story.priceOf(what - 10);
        }
        return within(what, 20, 20 + COLOURS - 1) ? story.dailyOf(what - 20) : BAD;
    }

    public int thing(int t, int what) {
        if (!story.hasThing(t)) {
            return BAD;
        }
        switch (what) {
            case 0: return story.cubesOf(t);
            case 1: return story.lengthOf(t);
            case 2: return story.laterThan(t);
            case 3: return sequence.aheadOf(t);
            default: return BAD;
        }
    }

    public int pattern(int p, int way, int cell) {
        if (!story.hasPattern(p) || !within(way, 0, WAYS - 1) || !within(cell, 0, PATTERN_CELLS - 1)) {
            return BAD;
        }
        int colour = story.patternColour(p, source(way, cell, PATTERN_SIDE));
        return colour < 0 ? NONE : colour;
    }

    // ---- the floor

    public int put(int cell, int v) {
        if (!isCell(cell) || !within(v, LOST, COLOURS - 1)) {
            return BAD_CELL;
        }
        int was = floor.colourAt(cell);
        floor.change(cell, v);
        return was;
    }

    public int at(int cell) {
        return isCell(cell) ? floor.colourAt(cell) : BAD_CELL;
    }

    public int lay(int p, int way, int scale, int cell) {
        int number = book.copyNumber(p, way, scale, cell);
        if (number < 0) {
            return BAD;
        }
        if (book.clashesIn(number, floor) > 0) {
            return STATE;
        }
        int filled = book.wouldFill(number, floor);
        book.layOn(number, floor);
        return filled;
    }

    // ---- which was ahead

    public int ahead(int a, int b) {
        if (!areTwoThings(a, b)) {
            return BAD;
        }
        return has(sequence.aheadOf(b), a) ? 1 : 0;
    }

    public int rings(int what) {
        switch (what) {
            case 0: return sequence.ringed();
            case 1: return sequence.leastRing();
            default: return BAD;
        }
    }

    public int rank(int t, int what) {
        if (!story.hasThing(t) || !within(what, 0, 1)) {
            return BAD;
        }
        if (sequence.ringed() != 0) {
            return STATE;
        }
        if (what == 0) {
            return Integer.bitCount(sequence.aheadOf(t));
        }
        return story.things() - 1 - Integer.bitCount(sequence.behind(t));
    }

    public long orders() {
        return sequence.ringed() != 0 ? STATE : sequence.allOrders();
    }

    public long likely(int a, int b, int what) {
        if (!areTwoThings(a, b) || !within(what, 0, 1)) {
            return BAD;
        }
        if (sequence.ringed() != 0) {
            return STATE;
        }
        long all = sequence.allOrders();
        long those = sequence.ordersWith(a, b);
        long shared = sharedDivisor(those, all);
        return (what == 0 ? those : all) / shared;
    }

    public int begins(int what) {
        if (!within(what, 0, 1)) {
            return BAD;
        }
        if (sequence.ringed() != 0) {
            return STATE;
        }
        return what == 0 ? sequence.firsts() : sequence.lasts();
    }

    public int order(long k, int i) {
        if (k < 0 || !story.hasThing(i)) {
            return BAD;
        }
        if (sequence.ringed() != 0) {
            return STATE;
        }
        return k >= sequence.allOrders() ? BAD : sequence.thingAt(k, i);
    }

    // ---- hands, borders

    public int size(int t, int what) {
        if (!story.isRow(t) || !within(what, 0, 1)) {
            return BAD;
        }
        int length = story.lengthOf(t);
        int cubes = story.cubesOf(t);
        int shared = (int) sharedDivisor(length, cubes);
        return (what == 0 ? length : cubes) / Math.max(1, shared);
    }

    public int sure(int a, int b) {
        if (a == b || !story.isRow(a) || !story.isRow(b)) {
            return BAD;
        }
        return story.areTwoHands(a, b) ? 1 : 0;
    }

    public int hands(int what) {
        if (what != 0 && !within(what, 10, 10 + MOST_THINGS - 1)) {
            return BAD;
        }
        int left = story.rows();
        for (int hand = 0; hand <= MOST_THINGS; hand++) {
            if (left == 0) {
                return what == 0 ? hand : BAD;
            }
            int with = story.handOfLeast(left);
            if (what == 10 + hand) {
                return with;
            }
            left &= ~with;
        }
        return BAD;
    }

    public int knot(int place) {
        if (!border.isBeyond(place)) {
            return BAD;
        }
        return border.append(place) ? border.length() : FULL;
    }

    public int wipe() {
        return border.clear();
    }

    public int slips(int k, int what) {
        if (!within(k, 1, 99) || !within(what, 0, 2)) {
            return BAD_SLIP;
        }
        if (border.length() < 2) {
            return STATE_SLIP;
        }
        switch (what) {
            case 0: return border.slipsBy(k);
            case 1: return border.firstSlipBy(k);
            default: return border.driftBy(k);
        }
    }

    public int knots() {
        return border.length() < 2 ? STATE : border.bestLength();
    }

    public int fits(int length, int k, int s, int what) {
        if (!within(length, 1, 999) || !within(k, 1, 99) || !within(s, 0, 9) || !within(what, 0, 2)) {
            return BAD;
        }
        int most = length / k;
        int least = (length + k + s - 1) / (k + s);
        if (least > most) {
            return NONE;
        }
        if (what < 2) {
            return what == 0 ? most : least;
        }
        // The more knots there are, the less is left over for long ones: so the most knots need the fewest.
        int over = length - most * k;
        return s == 0 ? 0 : (over + s - 1) / s;
    }

    // ---- the book

    public int copy(int p, int way, int scale, int cell, int what) {
        int number = book.copyNumber(p, way, scale, cell);
        if (number < 0) {
            return BAD;
        }
        switch (what) {
            case 0: return book.agreesIn(number, floor);
            case 1: return book.clashesIn(number, floor);
            case 2: return book.wouldFill(number, floor);
            default: return BAD;
        }
    }

    public int best(int what) {
        if (!within(what, 0, 4)) {
            return BAD;
        }
        int number = book.bestOn(floor);
        if (number < 0) {
            return NONE;
        }
        switch (what) {
            case 0: return Book.patternOf(number);
            case 1: return Book.wayOf(number);
            case 2: return Book.scaleOf(number);
            case 3: return Book.cellOf(number);
            default: return book.agreesIn(number, floor);
        }
    }

    public int copies(int p, int n) {
        if (!story.hasPattern(p) || !within(n, 0, CELLS)) {
            return BAD;
        }
        return book.countCopies(p, n, floor);
    }

    // ---- what is lost

    public int symmetries() {
        return floor.waysThatHold();
    }

    public int may(int cell, int how) {
        if (!isCell(cell) || !within(how, 0, 2) || floor.colourAt(cell) != LOST) {
            return BAD;
        }
        guess.gather(floor, book, how);
        return guess.verdict(cell);
    }

    public int lost(int what) {
        if (!within(what, 0, 2)) {
            return BAD;
        }
        guess.gather(floor, book, 2);
        long open = floor.lostCells();
        switch (what) {
            case 0: return Long.bitCount(open & guess.saidOnce());
            case 1: return Long.bitCount(open & guess.saidUnlike());
            default: return Long.bitCount(open & guess.saidNothing());
        }
    }

    public int fill() {
        guess.gather(floor, book, 2);
        long sure = floor.lostCells() & guess.saidOnce();
        for (int cell = 0; cell < CELLS; cell++) {
            if (hasCell(sure, cell)) {
                floor.change(cell, guess.verdict(cell));
            }
        }
        floor.noteFilled(sure);
        return Long.bitCount(sure);
    }

    public int undo() {
        return floor.canUndo() ? floor.unfill() : STATE;
    }

    // ---- stones, panels

    public int stones(int colour) {
        return within(colour, 0, COLOURS - 1) ? Long.bitCount(floor.plane(colour)) : BAD;
    }

    public long works(int what) {
        switch (what) {
            case 0: return cost();
            case 1:
            case 2: return days(what == 1);
            default: return BAD;
        }
    }

    public int mix(int places, int turns) {
        if (!Panels.allUnlike(places) || !within(turns, 0, 255)) {
            return BAD;
        }
        floor.mixPanels(places, turns);
        return 1;
    }

    public int seams() {
        return floor.seamsNow();
    }

    public int together(int what) {
        if (!within(what, 0, 3)) {
            return BAD;
        }
        panels.search(floor);
        switch (what) {
            case 0: return panels.bestSum();
            case 1: return panels.bestPlaces();
            case 2: return panels.bestTurns();
            default: return panels.bestWays();
        }
    }

    // ---- sheets

    public int sheet(int k, int lane, int n) {
        if (!isSheet(k) || !Sheet.isLane(lane) || n > CELLS) {
            return BAD;
        }
        if (n < 0) {
            return -10 - Sheet.SIZE;
        }
        sheets[k].renew(lane, n);
        return 1;
    }

    public int write(int k, int i, int v) {
        if (!isSheet(k)) {
            return BAD;
        }
        int found = sheets[k].faultOf(i);
        if (found != 0) {
            return -10 - found;
        }
        sheets[k].store(i, v);
        return 1;
    }

    public int read(int k, int lane, int f, int c, int n) {
        if (!isSheet(k) || !Sheet.isLane(lane) || !within(n, 0, CELLS) || !within(c, 0, CELLS - n)) {
            return BAD;
        }
        Sheet sheet = sheets[k];
        int found = 0;
        int good = 0;
        while (good < n && found == 0) {
            // Once f itself is within the SHEET, f + good can not pass the greatest int.
            found = sheet.faultAs(lane, f + good);
            if (found == 0) {
                if (!within(sheet.valueAt(f + good), LOST, COLOURS - 1)) {
                    return -20 - good;
                }
                good++;
            }
        }
        for (int i = 0; i < n; i++) {
            floor.change(c + i, i < good ? sheet.valueAt(f + i) : LOST);
        }
        torn = found;
        return good;
    }

    public int torn() {
        return torn;
    }

    public int count(int what) {
        switch (what) {
            case 0: return Long.bitCount(floor.lostCells());
            case 1: return border.length();
            case 2: return Integer.bitCount(story.rows());
            case 3: return story.things() - Integer.bitCount(story.rows());
            case 4: return tape.length();
            case 5: return sheets[0].isThere() ? sheets[0].length() : NONE;
            default: return BAD;
        }
    }

    // ---- what the calls share

    private static boolean within(int value, int least, int most) {
        return value >= least && value <= most;
    }

    private static boolean isCell(int cell) {
        return cell >= 0 && cell < CELLS;
    }

    private static boolean isSheet(int k) {
        return within(k, 0, SHEETS - 1);
    }

    private static boolean has(int bits, int t) {
        return (bits >> t & 1) != 0;
    }

    private static boolean hasCell(long cells, int cell) {
        return (cells >>> cell & 1L) != 0;
    }

    private boolean areTwoThings(int a, int b) {
        return a != b && story.hasThing(a) && story.hasThing(b);
    }

    /** The greatest divisor of both, 1 at least, so that it may always divide. */
    private static long sharedDivisor(long a, long b) {
        long one = a;
        long other = b;
        // Euclid's steps on two longs are fewer than 100.
        for (int step = 0; step < 100 && other != 0; step++) {
            long left = one % other;
            one = other;
            other = left;
        }
        return Math.max(1L, one);
    }

    /** The cell of a square that comes to a cell, when the square is brought in a WAY. */
    private static int source(int way, int cell, int side) {
        if (side <= 0) {
            return 0;
        }
        int row = cell / side;
        int column = cell % side;
        for (int turn = 0; turn < (way & 3); turn++) {
            int was = row;
            row = side - 1 - column;
            column = was;
        }
        if (way >= 4) {
            column = side - 1 - column;
        }
        return row * side + column;
    }

    /** The CELL of THE FLOOR at a cell (0 to 15) of the PANEL at a place. */
    private static int panelCell(int place, int cell) {
        int row = (place >> 1) * PATTERN_SIDE + (cell >> 2);
        int column = (place & 1) * PATTERN_SIDE + (cell & 3);
        return row * SIDE + column;
    }

    /** Of four figures to the base 4 that at a place, place 0 the highest. */
    private static int figure(int figures, int place) {
        return figures >> (6 - 2 * place) & 3;
    }

    private long cost() {
        long sum = 0;
        for (int colour = 0; colour < COLOURS; colour++) {
            sum += (long) Long.bitCount(floor.plane(colour)) * story.priceOf(colour);
        }
        return sum;
    }

    private long days(boolean numerator) {
        long top = 0;
        long bottom = 1;
        for (int colour = 0; colour < COLOURS; colour++) {
            long daily = story.dailyOf(colour);
            top = top * daily + Long.bitCount(floor.plane(colour)) * bottom;
            bottom = bottom * daily;
            long shared = sharedDivisor(top, bottom);
            top /= shared;
            bottom /= shared;
        }
        return numerator ? top : bottom;
    }

    /** THE TAPE, and the TOKEN on it that is read. */
    private static final class Tape {
        private static final int ROOM = 400;
        private static final int WRONG = 0;
        private static final int END = 1;
        private static final int NAME = 2;
        private static final int NUMBER = 3;
        private static final int SIGN = 4;

        private final byte[] bytes = new byte[ROOM];
        private int length;
        /** The TOKEN: its first byte, and the one behind it. */
        private int start;
        private int next;

        int length() {
            return length;
        }

        boolean append(long eight) {
            if (length + 8 > ROOM) {
                return false;
            }
            for (int i = 0; i < 8; i++) {
                bytes[length + i] = (byte) (eight >>> (56 - 8 * i));
            }
            length += 8;
            return true;
        }

        boolean keep(int n) {
            if (n < 0 || n > length) {
                return false;
            }
            length = n;
            return true;
        }

        void rewind() {
            start = 0;
            next = 0;
        }

        /** Reads the next TOKEN: its kind. */
        int scan() {
            while (next < length && bytes[next] == ' ') {
                next++;
            }
            start = next;
            if (next >= length) {
                return END;
            }
            int kind = kindOf(bytes[next]);
            next++;
            boolean grows = kind == NAME || kind == NUMBER;
            while (grows && next < length && kindOf(bytes[next]) == kind) {
                next++;
            }
            return kind == NUMBER && next - start > 3 ? WRONG : kind;
        }

        private static int kindOf(int sign) {
            if (sign >= 'a' && sign <= 'z') {
                return NAME;
            }
            if (sign >= '0' && sign <= '9') {
                return NUMBER;
            }
            return sign == ';' ? SIGN : WRONG;
        }

        int tokenPlace() {
            return start;
        }

        int tokenLength() {
            return next - start;
        }

        /** A byte of the TOKEN; 0: it is not as long. */
        int tokenByte(int i) {
            int place = start + i;
            return i >= 0 && place >= 0 && place < next && place < length ? bytes[place] : 0;
        }

        int tokenNumber() {
            int number = 0;
            for (int i = 0; i < tokenLength(); i++) {
                number = number * 10 + tokenByte(i) - '0';
            }
            return number;
        }

        boolean tokenIs(String word) {
            if (tokenLength() != word.length()) {
                return false;
            }
            for (int i = 0; i < word.length(); i++) {
                if (tokenByte(i) != word.charAt(i)) {
                    return false;
                }
            }
            return true;
        }
    }

    /** What a text tells. */
    private static final class Story {
        private final int[] cubes = new int[MOST_THINGS];
        private final int[] lengths = new int[MOST_THINGS];
        /** What a PATCH cuts and what gives says are held apart: gives alone may not be told again. */
        private final int[] cuts = new int[MOST_THINGS];
        private final int[] gives = new int[MOST_THINGS];
        private final int[] prices = new int[COLOURS];
        private final int[] daily = new int[COLOURS];
        private final int[] patternCells = new int[MOST_PATTERNS * PATTERN_CELLS];
        private int things;
        private int patterns;
        private int apart;
        private boolean apartIsTold;
        private int quarriesTold;

        Story() {
            clear();
        }

        void clear() {
            Arrays.fill(cubes, 0);
            Arrays.fill(lengths, 0);
            Arrays.fill(cuts, 0);
            Arrays.fill(gives, 0);
            Arrays.fill(prices, 1);
            Arrays.fill(daily, 10);
            Arrays.fill(patternCells, LOST);
            things = 0;
            patterns = 0;
            apart = 10;
            apartIsTold = false;
            quarriesTold = 0;
        }

        int things() {
            return things;
        }

        int patterns() {
            return patterns;
        }

        int apart() {
            return apart;
        }

        boolean apartIsTold() {
            return apartIsTold;
        }

        boolean hasThing(int t) {
            return within(t, 0, things - 1);
        }

        boolean isRow(int t) {
            return hasThing(t) && cubes[t] > 0;
        }

        boolean hasPattern(int p) {
            return within(p, 0, patterns - 1);
        }

        int cubesOf(int t) {
            return hasThing(t) ? cubes[t] : 0;
        }

        int lengthOf(int t) {
            return hasThing(t) ? lengths[t] : 0;
        }

        int laterThan(int t) {
            return hasThing(t) ? cuts[t] | gives[t] : 0;
        }

        int priceOf(int colour) {
            return within(colour, 0, COLOURS - 1) ? prices[colour] : 0;
        }

        int dailyOf(int colour) {
            return within(colour, 0, COLOURS - 1) ? daily[colour] : 1;
        }

        int patternColour(int p, int cell) {
            if (!hasPattern(p) || !within(cell, 0, PATTERN_CELLS - 1)) {
                return LOST;
            }
            return patternCells[p * PATTERN_CELLS + cell];
        }

        void addRow(int ofCubes, int length) {
            if (things < MOST_THINGS) {
                cubes[things] = ofCubes;
                lengths[things] = length;
                things++;
            }
        }

        void addPatch(int cut) {
            if (things < MOST_THINGS) {
                cuts[things] = cut;
                things++;
            }
        }

        /** False: it is told already. */
        boolean addGives(int later, int earlier) {
            if (!hasThing(later) || has(gives[later], earlier)) {
                return false;
            }
            gives[later] |= 1 << earlier;
            return true;
        }

        void tellApart(int tenths) {
            apart = tenths;
            apartIsTold = true;
        }

        boolean quarryIsTold(int colour) {
            return has(quarriesTold, colour);
        }

        void tellQuarry(int colour, int price, int aDay) {
            if (within(colour, 0, COLOURS - 1)) {
                prices[colour] = price;
                daily[colour] = aDay;
                quarriesTold |= 1 << colour;
            }
        }

        /** A cell of the PATTERN that is being told; it counts from addPattern on. */
        void tellPatternCell(int cell, int colour) {
            if (patterns < MOST_PATTERNS && within(cell, 0, PATTERN_CELLS - 1)) {
                patternCells[patterns * PATTERN_CELLS + cell] = colour;
            }
        }

        void addPattern() {
            if (patterns < MOST_PATTERNS) {
                patterns++;
            }
        }

        /** ROWS as bits. */
        int rows() {
            int bits = 0;
            for (int t = 0; t < things; t++) {
                if (cubes[t] > 0) {
                    bits |= 1 << t;
                }
            }
            return bits;
        }

        boolean areTwoHands(int a, int b) {
            if (!isRow(a) || !isRow(b)) {
                return false;
            }
            int difference = Math.abs(lengths[a] * cubes[b] - lengths[b] * cubes[a]);
            return difference * 10 > apart * cubes[a] * cubes[b];
        }

        /** Of some ROWS the one of the least SIZE with all that are not SURE of another hand than its own. */
        int handOfLeast(int some) {
            int least = -1;
            for (int t = 0; t < things; t++) {
                if (has(some, t) && (least < 0 || lengths[t] * cubes[least] < lengths[least] * cubes[t])) {
                    least = t;
                }
            }
            // None is smaller than the least, so those within the bound of it are so of one another.
            int hand = 0;
            for (int t = 0; t < things; t++) {
                if (has(some, t) && !areTwoHands(least, t)) {
                    hand |= 1 << t;
                }
            }
            return hand;
        }
    }

    /** Takes THE TAPE line by line into a Story and stops at its first FAULT. */
    private static final class Reader {
        private static final int NO_TOKEN = 1;
        private static final int NOT_THERE = 2;
        private static final int BOUNDS = 3;
        private static final int AGAIN = 4;
        private static final int TOO_MANY = 5;

        private final Tape tape;
        private Story story;
        private int number;
        private int faultFound;
        private int faultPlace;

        Reader(Tape tape, Story story) {
            this.tape = tape;
            this.story = story;
        }

        int faultFound() {
            return faultFound;
        }

        int faultPlace() {
            return faultPlace;
        }

        void begin(Story into) {
            story = into;
            story.clear();
            tape.rewind();
            faultFound = 0;
            faultPlace = 0;
        }

        private boolean refuse(int fault) {
            faultFound = fault;
            faultPlace = tape.tokenPlace();
            return false;
        }

        /** Of a TOKEN that can not stand where it is: whether it is none at all. */
        private boolean refuseKind(int kind) {
            return refuse(kind == Tape.WRONG ? NO_TOKEN : NOT_THERE);
        }

        private boolean takeKind(int wanted) {
            int kind = tape.scan();
            return kind == wanted || refuseKind(kind);
        }

        private boolean takeNumber(int least, int most) {
            if (!takeKind(Tape.NUMBER)) {
                return false;
            }
            number = tape.tokenNumber();
            return within(number, least, most) || refuse(BOUNDS);
        }

        /** False: THE TAPE is at its end, or has a FAULT. */
        boolean takeLine() {
            int kind = tape.scan();
            if (kind == Tape.END) {
                return false;
            }
            if (kind != Tape.NAME) {
                return refuseKind(kind);
            }
            if (tape.tokenIs("row")) {
                return takeRow();
            }
            if (tape.tokenIs("patch")) {
                return takePatch();
            }
            if (tape.tokenIs("gives")) {
                return takeGives();
            }
            if (tape.tokenIs("apart")) {
                return takeApart();
            }
            if (tape.tokenIs("quarry")) {
                return takeQuarry();
            }
            return tape.tokenIs("book") ? takeBook() : refuse(NOT_THERE);
        }

        private boolean takeRow() {
            if (story.things() >= MOST_THINGS) {
                return refuse(TOO_MANY);
            }
            if (!takeNumber(1, 99)) {
                return false;
            }
            int cubes = number;
            if (!takeNumber(1, 999)) {
                return false;
            }
            story.addRow(cubes, number);
            return takeKind(Tape.SIGN);
        }

        private boolean takePatch() {
            if (story.things() >= MOST_THINGS) {
                return refuse(TOO_MANY);
            }
            int cut = 0;
            // No THING stands twice, so the sign or a FAULT comes soon enough.
            for (int i = 0; i <= MOST_THINGS; i++) {
                int kind = tape.scan();
                if (kind == Tape.SIGN) {
                    story.addPatch(cut);
                    return true;
                }
                if (kind != Tape.NUMBER) {
                    return refuseKind(kind);
                }
                int t = tape.tokenNumber();
                if (!story.hasThing(t)) {
                    return refuse(BOUNDS);
                }
                if (has(cut, t)) {
                    return refuse(AGAIN);
                }
                cut |= 1 << t;
            }
            return refuse(NOT_THERE);
        }

        private boolean takeGives() {
            int last = story.things() - 1;
            if (!takeNumber(0, last)) {
                return false;
            }
            int later = number;
            if (!takeNumber(0, last)) {
                return false;
            }
            if (number == later) {
                return refuse(BOUNDS);
            }
            return story.addGives(later, number) ? takeKind(Tape.SIGN) : refuse(AGAIN);
        }

        private boolean takeApart() {
            if (story.apartIsTold()) {
                return refuse(AGAIN);
            }
            if (!takeNumber(0, 99)) {
                return false;
            }
            story.tellApart(number);
            return takeKind(Tape.SIGN);
        }

        private boolean takeQuarry() {
            if (!takeKind(Tape.NAME)) {
                return false;
            }
            int colour = tape.tokenByte(0) - 'a';
            if (tape.tokenLength() != 1 || !within(colour, 0, COLOURS - 1)) {
                return refuse(BOUNDS);
            }
            if (story.quarryIsTold(colour)) {
                return refuse(AGAIN);
            }
            if (!takeNumber(0, 99)) {
                return false;
            }
            int price = number;
            if (!takeNumber(1, 99)) {
                return false;
            }
            story.tellQuarry(colour, price, number);
            return takeKind(Tape.SIGN);
        }

        private boolean takeBook() {
            if (story.patterns() >= MOST_PATTERNS) {
                return refuse(TOO_MANY);
            }
            for (int row = 0; row < PATTERN_SIDE; row++) {
                if (!takeKind(Tape.NAME) || !takePatternRow(row)) {
                    return false;
                }
            }
            story.addPattern();
            return takeKind(Tape.SIGN);
        }

        private boolean takePatternRow(int row) {
            if (tape.tokenLength() != PATTERN_SIDE) {
                return refuse(BOUNDS);
            }
            for (int column = 0; column < PATTERN_SIDE; column++) {
                int letter = tape.tokenByte(column);
                int colour = letter == 'x' ? LOST : letter - 'a';
                if (!within(colour, LOST, COLOURS - 1)) {
                    return refuse(BOUNDS);
                }
                story.tellPatternCell(row * PATTERN_SIDE + column, colour);
            }
            return true;
        }
    }

    /** Which THING was laid ahead of which, and the ORDERS. Sets of THINGS are bits. */
    private static final class Sequence {
        private final int[] laterThan = new int[MOST_THINGS];
        private final int[] aheadOf = new int[MOST_THINGS];
        /** Of each set that can be laid first: how many ORDERS of it, and of what is left. 12! is an int. */
        private final int[] waysTo = new int[1 << MOST_THINGS];
        private final int[] waysFrom = new int[1 << MOST_THINGS];
        private int things;
        private boolean counted;

        void learn(Story story) {
            things = Math.min(story.things(), MOST_THINGS);
            for (int t = 0; t < things; t++) {
                laterThan[t] = story.laterThan(t);
                aheadOf[t] = laterThan[t];
            }
            for (int through = 0; through < things; through++) {
                for (int t = 0; t < things; t++) {
                    if (has(aheadOf[t], through)) {
                        aheadOf[t] |= aheadOf[through];
                    }
                }
            }
            // The ORDERS are counted when they are first asked for: many texts are never asked.
            counted = false;
        }

        int aheadOf(int t) {
            return within(t, 0, things - 1) ? aheadOf[t] : 0;
        }

        int behind(int t) {
            int bits = 0;
            for (int u = 0; u < things; u++) {
                if (has(aheadOf[u], t)) {
                    bits |= 1 << u;
                }
            }
            return bits;
        }

        int ringed() {
            int bits = 0;
            for (int t = 0; t < things; t++) {
                if (has(aheadOf[t], t)) {
                    bits |= 1 << t;
                }
            }
            return bits;
        }

        /** The fewest THINGS of a RING; 0: there is none. */
        int leastRing() {
            int least = 0;
            for (int t = 0; t < things; t++) {
                int steps = stepsToItself(t);
                if (steps > 0 && (least == 0 || steps < least)) {
                    least = steps;
                }
            }
            return least;
        }

        private int stepsToItself(int t) {
            int front = 1 << t;
            for (int step = 1; step <= things; step++) {
                int before = 0;
                for (int u = 0; u < things; u++) {
                    if (has(front, u)) {
                        before |= laterThan[u];
                    }
                }
                if (has(before, t)) {
                    return step;
                }
                front = before;
            }
            return 0;
        }

        int firsts() {
            int bits = 0;
            for (int t = 0; t < things; t++) {
                if (aheadOf[t] == 0) {
                    bits |= 1 << t;
                }
            }
            return bits;
        }

        int lasts() {
            int bits = 0;
            for (int t = 0; t < things; t++) {
                if (behind(t) == 0) {
                    bits |= 1 << t;
                }
            }
            return bits;
        }

        private boolean mayFollow(int laid, int t) {
            return !has(laid, t) && (aheadOf[t] & ~laid) == 0;
        }

        private void countWays() {
            if (counted) {
                return;
            }
            int all = (1 << things) - 1;
            for (int laid = 0; laid <= all; laid++) {
                waysTo[laid] = 0;
                waysFrom[laid] = 0;
            }
            waysTo[0] = 1;
            for (int laid = 0; laid <= all; laid++) {
                for (int t = 0; t < things && waysTo[laid] > 0; t++) {
                    if (mayFollow(laid, t)) {
                        waysTo[laid | 1 << t] += waysTo[laid];
                    }
                }
            }
            waysFrom[all] = 1;
            for (int laid = all - 1; laid >= 0; laid--) {
                for (int t = 0; t < things && waysTo[laid] > 0; t++) {
                    if (mayFollow(laid, t)) {
                        waysFrom[laid] += waysFrom[laid | 1 << t];
                    }
                }
            }
            counted = true;
        }

        long allOrders() {
            countWays();
            return waysFrom[0];
        }

        /** ORDERS in which a is ahead of b: b comes next when a set with a has been laid. */
        long ordersWith(int a, int b) {
            countWays();
            if (!within(b, 0, things - 1)) {
                return 0;
            }
            long sum = 0;
            for (int laid = 0; laid < 1 << things; laid++) {
                if (waysTo[laid] > 0 && has(laid, a) && mayFollow(laid, b)) {
                    sum += (long) waysTo[laid] * waysFrom[laid | 1 << b];
                }
            }
            return sum;
        }

        int thingAt(long k, int place) {
            countWays();
            long left = k;
            int laid = 0;
            int latest = BAD;
            for (int i = 0; i <= place && i < things; i++) {
                latest = BAD;
                for (int t = 0; t < things && latest < 0; t++) {
                    if (mayFollow(laid, t)) {
                        int ways = waysFrom[laid | 1 << t];
                        if (left < ways) {
                            latest = t;
                        } else {
                            left -= ways;
                        }
                    }
                }
                if (latest < 0) {
                    return BAD;
                }
                laid |= 1 << latest;
            }
            return latest;
        }
    }

    /** The BORDER. */
    private static final class Border {
        private static final int MOST_KNOTS = 24;

        private final int[] places = new int[MOST_KNOTS];
        private int length;

        int length() {
            return length;
        }

        boolean isBeyond(int place) {
            return within(place, 0, 999) && (length == 0 || place > places[length - 1]);
        }

        boolean append(int place) {
            if (length >= MOST_KNOTS) {
                return false;
            }
            places[length] = place;
            length++;
            return true;
        }

        int clear() {
            int had = length;
            length = 0;
            return had;
        }

        int slipsBy(int k) {
            int slips = 0;
            for (int i = 0; i + 1 < length; i++) {
                if (places[i + 1] - places[i] != k) {
                    slips++;
                }
            }
            return slips;
        }

        int firstSlipBy(int k) {
            for (int i = 0; i + 1 < length; i++) {
                if (places[i + 1] - places[i] != k) {
                    return i;
                }
            }
            return NONE;
        }

        int driftBy(int k) {
            return length < 1 ? 0 : places[length - 1] - places[0] - k * (length - 1);
        }

        int bestLength() {
            int best = 1;
            int fewest = slipsBy(1);
            for (int k = 2; k <= 99; k++) {
                int slips = slipsBy(k);
                if (slips < fewest) {
                    best = k;
                    fewest = slips;
                }
            }
            return best;
        }
    }

    /** THE FLOOR: its COLOURS, by CELL and as a set of CELLS (bits) for each COLOUR, and what fill() FILLED. */
    private static final class Floor {
        private final int[] colours = new int[CELLS];
        private final long[] planes = new long[COLOURS];
        /** Where each WAY brings each CELL. */
        private final int[] images = new int[WAYS * CELLS];
        private final int[] lifted = new int[CELLS];
        private long coloured;
        private long filled;
        private boolean canUndo;
        private int changes;

        Floor() {
            Arrays.fill(colours, LOST);
            for (int way = 0; way < WAYS; way++) {
                for (int cell = 0; cell < CELLS; cell++) {
                    int from = source(way, cell, SIDE);
                    if (isCell(from)) {
                        images[way * CELLS + from] = cell;
                    }
                }
            }
        }

        int colourAt(int cell) {
            return isCell(cell) ? colours[cell] : LOST;
        }

        long plane(int colour) {
            return colour >= 0 && colour < COLOURS ? planes[colour] : 0;
        }

        /** It differs from what it was, if THE FLOOR does. */
        int changes() {
            return changes;
        }

        long lostCells() {
            return ~coloured;
        }

        /** The one place where a CELL changes; it is then no longer FILLED. */
        void change(int cell, int colour) {
            if (!isCell(cell) || !within(colour, LOST, COLOURS - 1)) {
                return;
            }
            long bit = 1L << cell;
            int was = colours[cell];
            if (within(was, 0, COLOURS - 1)) {
                planes[was] &= ~bit;
                coloured &= ~bit;
            }
            if (colour != LOST) {
                planes[colour] |= bit;
                coloured |= bit;
            }
            colours[cell] = colour;
            filled &= ~bit;
            changes++;
        }

        void noteFilled(long cells) {
            filled = cells;
            canUndo = true;
        }

        boolean canUndo() {
            return canUndo;
        }

        int unfill() {
            long cells = filled;
            for (int cell = 0; cell < CELLS; cell++) {
                if (hasCell(cells, cell)) {
                    change(cell, LOST);
                }
            }
            canUndo = false;
            return Long.bitCount(cells);
        }

        int imageOf(int way, int cell) {
            return within(way, 0, WAYS - 1) && isCell(cell) ? images[way * CELLS + cell] : cell;
        }

        boolean holds(int way) {
            for (int cell = 0; cell < CELLS; cell++) {
                int here = colourAt(cell);
                int there = colourAt(imageOf(way, cell));
                if (here != LOST && there != LOST && here != there) {
                    return false;
                }
            }
            return true;
        }

        int waysThatHold() {
            int bits = 0;
            for (int way = 1; way < WAYS; way++) {
                if (holds(way)) {
                    bits |= 1 << way;
                }
            }
            return bits;
        }

        void mixPanels(int places, int turns) {
            for (int cell = 0; cell < CELLS; cell++) {
                lifted[cell] = colours[cell];
            }
            for (int place = 0; place < PANELS; place++) {
                int to = figure(places, place);
                int turn = figure(turns, place);
                for (int cell = 0; cell < PATTERN_CELLS; cell++) {
                    int from = panelCell(place, source(turn, cell, PATTERN_SIDE));
                    if (isCell(from)) {
                        change(panelCell(to, cell), lifted[from]);
                    }
                }
            }
            canUndo = false;
        }

        private int seam(int cell, int other) {
            int colour = colourAt(cell);
            return colour != LOST && colour == colourAt(other) ? 1 : 0;
        }

        int seamsNow() {
            int sum = 0;
            int before = PATTERN_SIDE - 1;
            for (int i = 0; i < SIDE; i++) {
                sum += seam(i * SIDE + before, i * SIDE + before + 1);
                sum += seam(before * SIDE + i, (before + 1) * SIDE + i);
            }
            return sum;
        }
    }

    /**
     * THE BOOK. A COPY is a number, so many for each PATTERN: at SCALE 1 for each WAY all CELLS where it may begin,
     * then at SCALE 2, as large as THE FLOOR, the WAYS alone: numbers come in the order in which BEST is sought.
     */
    private static final class Book {
        private static final int STARTS = SIDE - PATTERN_SIDE + 1;
        private static final int SMALL_IN_WAY = STARTS * STARTS;
        private static final int SMALL = WAYS * SMALL_IN_WAY;
        private static final int ALL = SMALL + WAYS;

        /** Of each PATTERN, SCALE and WAY, at CELL 0, the CELLS of each COLOUR (bits). */
        private final long[] shapes = new long[MOST_PATTERNS * 2 * WAYS * COLOURS];
        private int patterns;

        static int patternOf(int number) {
            return number / ALL;
        }

        static int scaleOf(int number) {
            return number % ALL < SMALL ? 1 : 2;
        }

        static int wayOf(int number) {
            int rest = number % ALL;
            return rest < SMALL ? rest / SMALL_IN_WAY : rest - SMALL;
        }

        static int cellOf(int number) {
            int rest = number % ALL;
            int start = rest < SMALL ? rest % SMALL_IN_WAY : 0;
            return start / STARTS * SIDE + start % STARTS;
        }

        /** Where the CELLS of its COLOUR 0 stand. */
        private static int shapeOf(int number) {
            return ((patternOf(number) * 2 + scaleOf(number) - 1) * WAYS + wayOf(number)) * COLOURS;
        }

        /** Below 0: there is no such COPY. */
        int copyNumber(int p, int way, int scale, int cell) {
            if (!within(p, 0, patterns - 1) || !within(way, 0, WAYS - 1) || !within(scale, 1, 2) || !isCell(cell)) {
                return BAD;
            }
            int row = cell / SIDE;
            int column = cell % SIDE;
            int room = SIDE - PATTERN_SIDE * scale;
            if (row > room || column > room) {
                return BAD;
            }
            return p * ALL + (scale == 2 ? SMALL + way : way * SMALL_IN_WAY + row * STARTS + column);
        }

        /** All numbers of COPIES are below it. */
        int numbers() {
            return patterns * ALL;
        }

        void learn(Story story) {
            Arrays.fill(shapes, 0L);
            patterns = story.patterns();
            for (int p = 0; p < patterns; p++) {
                for (int way = 0; way < WAYS; way++) {
                    for (int cell = 0; cell < PATTERN_CELLS; cell++) {
                        int colour = story.patternColour(p, source(way, cell, PATTERN_SIDE));
                        int row = cell / PATTERN_SIDE;
                        int column = cell % PATTERN_SIDE;
                        addCells(copyNumber(p, way, 1, 0), colour, 1L << row * SIDE + column);
                        // Four CELLS, 2 by 2: bits 0, 1, 8, 9.
                        addCells(copyNumber(p, way, 2, 0), colour, 771L << 2 * (row * SIDE + column));
                    }
                }
            }
        }

        private void addCells(int number, int colour, long cells) {
            if (within(number, 0, numbers() - 1) && within(colour, 0, COLOURS - 1)) {
                shapes[shapeOf(number) + colour] |= cells;
            }
        }

        /** The CELLS in which a COPY tells a COLOUR. */
        long toldCells(int number, int colour) {
            if (!within(number, 0, numbers() - 1) || !within(colour, 0, COLOURS - 1)) {
                return 0;
            }
            return shapes[shapeOf(number) + colour] << cellOf(number);
        }

        int agreesIn(int number, Floor floor) {
            int sum = 0;
            for (int colour = 0; colour < COLOURS; colour++) {
                sum += Long.bitCount(toldCells(number, colour) & floor.plane(colour));
            }
            return sum;
        }

        int clashesIn(int number, Floor floor) {
            int sum = 0;
            long coloured = ~floor.lostCells();
            for (int colour = 0; colour < COLOURS; colour++) {
                sum += Long.bitCount(toldCells(number, colour) & coloured & ~floor.plane(colour));
            }
            return sum;
        }

        int wouldFill(int number, Floor floor) {
            int sum = 0;
            long open = floor.lostCells();
            for (int colour = 0; colour < COLOURS; colour++) {
                sum += Long.bitCount(toldCells(number, colour) & open);
            }
            return sum;
        }

        void layOn(int number, Floor floor) {
            long open = floor.lostCells();
            for (int colour = 0; colour < COLOURS; colour++) {
                long cells = toldCells(number, colour) & open;
                for (int cell = 0; cell < CELLS && cells != 0; cell++) {
                    if (hasCell(cells, cell)) {
                        floor.change(cell, colour);
                    }
                }
            }
        }

        /** In how many CELLS a COPY AGREES; below 0: it CLASHES. */
        int agreesCleanly(int number, Floor floor) {
            if (!within(number, 0, numbers() - 1)) {
                return BAD;
            }
            int sum = 0;
            int shape = shapeOf(number);
            int cell = cellOf(number);
            long coloured = ~floor.lostCells();
            for (int colour = 0; colour < COLOURS; colour++) {
                long met = shapes[shape + colour] << cell & coloured;
                long same = met & floor.plane(colour);
                if (same != met) {
                    return BAD;
                }
                sum += Long.bitCount(same);
            }
            return sum;
        }

        /** Below 0: there is none. */
        int bestOn(Floor floor) {
            int best = BAD;
            int most = 0;
            for (int number = 0; number < numbers(); number++) {
                int agrees = agreesCleanly(number, floor);
                if (agrees > most) {
                    best = number;
                    most = agrees;
                }
            }
            return best;
        }

        int countCopies(int p, int n, Floor floor) {
            int sum = 0;
            for (int number = p * ALL; number < (p + 1) * ALL; number++) {
                if (agreesCleanly(number, floor) >= n) {
                    sum++;
                }
            }
            return sum;
        }
    }

    /** What CELLS MAY have: of each COLOUR the CELLS (bits) of which it is said. */
    private static final class Guess {
        private final long[] said = new long[COLOURS];

        /**
         * By SYMMETRY (how 0), by THE BOOK (1), by both (2): a CELL is SURE just when all that is said of it,
         * by whichever of both, is one COLOUR, and UNLIKE when it is more.
         */
        void gather(Floor floor, Book book, int how) {
            Arrays.fill(said, 0L);
            if (how != 1) {
                gatherSymmetry(floor);
            }
            if (how != 0) {
                gatherBook(floor, book);
            }
        }

        private void say(int colour, long cells) {
            if (within(colour, 0, COLOURS - 1)) {
                said[colour] |= cells;
            }
        }

        private void gatherSymmetry(Floor floor) {
            int hold = floor.waysThatHold();
            for (int way = 1; way < WAYS; way++) {
                for (int cell = 0; cell < CELLS && has(hold, way); cell++) {
                    int image = floor.imageOf(way, cell);
                    say(floor.colourAt(cell), 1L << image);
                    say(floor.colourAt(image), 1L << cell);
                }
            }
        }

        private void gatherBook(Floor floor, Book book) {
            for (int number = 0; number < book.numbers(); number++) {
                if (book.agreesCleanly(number, floor) >= SURE_AGREES) {
                    for (int colour = 0; colour < COLOURS; colour++) {
                        say(colour, book.toldCells(number, colour));
                    }
                }
            }
        }

        /** CELLS of which two COLOURS or more are said. */
        long saidUnlike() {
            long once = 0;
            long unlike = 0;
            for (int colour = 0; colour < COLOURS; colour++) {
                unlike |= once & said[colour];
                once |= said[colour];
            }
            return unlike;
        }

        long saidNothing() {
            long some = 0;
            for (int colour = 0; colour < COLOURS; colour++) {
                some |= said[colour];
            }
            return ~some;
        }

        long saidOnce() {
            return ~saidNothing() & ~saidUnlike();
        }

        /** The COLOUR that is said of a CELL; NONE; STATE: more than one. */
        int verdict(int cell) {
            int answer = NONE;
            for (int colour = 0; colour < COLOURS; colour++) {
                if (hasCell(said[colour], cell)) {
                    answer = answer == NONE ? colour : STATE;
                }
            }
            return answer;
        }
    }

    /** PUT TOGETHER: the search over all ways to place and turn the PANELS. */
    private static final class Panels {
        private static final int TURNED = 16;
        private static final int RIGHT = 0;
        private static final int LEFT = 4;
        private static final int LOWER = 8;
        private static final int UPPER = 12;

        /** Of two PANELS, each with its turn (4 times its number and its turn): SEAMS side by side, one above. */
        private final int[] beside = new int[TURNED * TURNED];
        private final int[] above = new int[TURNED * TURNED];
        /** Of a PANEL with its turn the COLOURS at its right, left, lower, upper edge, four of each. */
        private final int[] edges = new int[TURNED * PATTERN_CELLS];
        private int bestSum;
        private int bestPlaces;
        private int bestTurns;
        private int bestWays;
        private int seenChanges = -1;

        static boolean allUnlike(int places) {
            if (!within(places, 0, 255)) {
                return false;
            }
            int seen = 0;
            for (int place = 0; place < PANELS; place++) {
                seen |= 1 << figure(places, place);
            }
            return seen == 15;
        }

        int bestSum() {
            return bestSum;
        }

        int bestPlaces() {
            return bestPlaces;
        }

        int bestTurns() {
            return bestTurns;
        }

        int bestWays() {
            return bestWays;
        }

        void search(Floor floor) {
            // It is asked for its parts one by one, and the search is the dearest of all.
            if (seenChanges == floor.changes()) {
                return;
            }
            seenChanges = floor.changes();
            bestSum = -1;
            noteEdges(floor);
            matchEdges();
            for (int places = 0; places < 256; places++) {
                if (allUnlike(places)) {
                    weighTurns(places);
                }
            }
        }

        private void noteEdges(Floor floor) {
            for (int one = 0; one < TURNED; one++) {
                for (int i = 0; i < PATTERN_SIDE; i++) {
                    int edge = one * PATTERN_CELLS + i;
                    edges[edge + RIGHT] = colourOf(floor, one, 4 * i + 3);
                    edges[edge + LEFT] = colourOf(floor, one, 4 * i);
                    edges[edge + LOWER] = colourOf(floor, one, 12 + i);
                    edges[edge + UPPER] = colourOf(floor, one, i);
                }
            }
        }

        private static int colourOf(Floor floor, int turned, int cell) {
            return floor.colourAt(panelCell(turned >> 2, source(turned & 3, cell, PATTERN_SIDE)));
        }

        private void matchEdges() {
            for (int one = 0; one < TURNED; one++) {
                for (int other = 0; other < TURNED; other++) {
                    int pair = one * TURNED + other;
                    beside[pair] = alike(one * PATTERN_CELLS + RIGHT, other * PATTERN_CELLS + LEFT);
                    above[pair] = alike(one * PATTERN_CELLS + LOWER, other * PATTERN_CELLS + UPPER);
                }
            }
        }

        /** SEAMS of two edges. */
        private int alike(int edge, int other) {
            int sum = 0;
            for (int i = 0; i < PATTERN_SIDE; i++) {
                int colour = edges[edge + i];
                if (colour != LOST && colour == edges[other + i]) {
                    sum++;
                }
            }
            return sum;
        }

        private void weighTurns(int places) {
            int p0 = figure(places, 0) * 4;
            int p1 = figure(places, 1) * 4;
            int p2 = figure(places, 2) * 4;
            int p3 = figure(places, 3) * 4;
            for (int high = 0; high < TURNED; high++) {
                int a = p0 + (high >> 2);
                int b = p1 + (high & 3);
                int upper = beside[a * TURNED + b];
                for (int low = 0; low < TURNED; low++) {
                    int c = p2 + (low >> 2);
                    int d = p3 + (low & 3);
                    int sum = upper + above[a * TURNED + c] + above[b * TURNED + d] + beside[c * TURNED + d];
                    if (sum > bestSum) {
                        bestSum = sum;
                        bestPlaces = places;
                        bestTurns = high * TURNED + low;
                        bestWays = 0;
                    }
                    if (sum == bestSum) {
                        bestWays++;
                    }
                }
            }
        }
    }

    /** A SHEET: its CELLS are kept as ints, cut to what its lane can hold. */
    private static final class Sheet {
        private static final int NULL = 1;
        private static final int INDEX = 2;
        private static final int CAST = 3;
        private static final int SIZE = 4;

        private final int[] values = new int[CELLS];
        private boolean there;
        private int lane;
        private int length;

        static boolean isLane(int lane) {
            return within(lane, 0, 2);
        }

        boolean isThere() {
            return there;
        }

        int length() {
            return length;
        }

        void renew(int ofLane, int n) {
            Arrays.fill(values, 0);
            there = true;
            lane = ofLane;
            length = Math.max(0, Math.min(n, CELLS));
        }

        /** What the machine finds at a CELL; 0: nothing. */
        int faultOf(int i) {
            if (!there) {
                return NULL;
            }
            return within(i, 0, length - 1) ? 0 : INDEX;
        }

        int faultAs(int asLane, int i) {
            // Nothing may be taken as of any lane: it is refused only when it is used.
            return there && lane != asLane ? CAST : faultOf(i);
        }

        void store(int i, int v) {
            if (faultOf(i) == 0) {
                values[i] = lane == 0 ? (byte) v : lane == 1 ? (short) v : v;
            }
        }

        int valueAt(int i) {
            return faultOf(i) == 0 ? values[i] : LOST;
        }
    }
}
