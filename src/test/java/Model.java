import java.math.BigInteger;
import java.util.ArrayList;
import java.util.Arrays;
import java.util.List;
import java.util.TreeSet;
import java.util.regex.Matcher;
import java.util.regex.Pattern;

/**
 * The document once more, written as plainly as may be and by other ways than the class: grids that are turned
 * cell by cell, ORDERS that are listed, all partitions tried. Slow; for random runs against the class.
 */
final class Model {
    private static final class Fault extends RuntimeException {
        private static final long serialVersionUID = 1L;
        final int kind;
        final int place;

        Fault(int kind, int place) {
            this.kind = kind;
            this.place = place;
        }
    }

    private static final class Told {
        final List<int[]> things = new ArrayList<>();
        final List<TreeSet<Integer>> later = new ArrayList<>();
        final TreeSet<String> gives = new TreeSet<>();
        final List<char[][]> patterns = new ArrayList<>();
        int apart = 10;
        boolean apartTold = false;
        final int[] price = {1, 1, 1, 1, 1, 1};
        final int[] daily = {10, 10, 10, 10, 10, 10};
        final boolean[] quarry = new boolean[6];
    }

    private StringBuilder tape = new StringBuilder();
    private Told told = new Told();
    private int fault = 0;
    private final int[] cells = new int[64];
    private final TreeSet<Integer> filled = new TreeSet<>();
    private boolean undoable = false;
    private final List<Integer> border = new ArrayList<>();
    private final Object[] sheets = new Object[4];
    private int torn = 0;

    Model() {
        Arrays.fill(cells, -1);
    }

    // ---- the text

    int feed(long v) {
        if (tape.length() + 8 > 400) {
            return -3;
        }
        for (int i = 7; i >= 0; i--) {
            tape.append((char) (v >> 8 * i & 255));
        }
        return tape.length();
    }

    int end(int n) {
        if (n < 0 || n > tape.length()) {
            return -1;
        }
        int had = tape.length();
        tape.setLength(n);
        return had;
    }

    private static final Pattern TOKEN = Pattern.compile(" *([a-z]+|[0-9]+|;|.|)", Pattern.DOTALL);
    private String input;
    private int from;
    private int place;
    private String token;

    private String next() {
        Matcher m = TOKEN.matcher(input);
        m.region(from, input.length());
        m.lookingAt();
        token = m.group(1);
        place = m.start(1);
        from = m.end(1);
        if (!token.matches("[a-z]+|[0-9]{1,3}|;|")) {
            throw new Fault(1, place);
        }
        return token;
    }

    private String next(String form) {
        if (!next().matches(form)) {
            throw new Fault(2, place);
        }
        return token;
    }

    private int number(int least, int most) {
        int n = Integer.parseInt(next("[0-9]+"));
        if (n < least || n > most) {
            throw new Fault(3, place);
        }
        return n;
    }

    private void line(Told t) {
        int last = t.things.size() - 1;
        switch (token) {
            case "row":
                room(t.things.size(), 12);
                t.things.add(new int[] {number(1, 99), number(1, 999)});
                t.later.add(new TreeSet<>());
                next(";");
                break;
            case "patch":
                room(t.things.size(), 12);
                TreeSet<Integer> cut = new TreeSet<>();
                while (!next(";|[0-9]+").equals(";")) {
                    int c = Integer.parseInt(token);
                    if (c > last) {
                        throw new Fault(3, place);
                    }
                    if (!cut.add(c)) {
                        throw new Fault(4, place);
                    }
                }
                t.things.add(new int[] {0, 0});
                t.later.add(cut);
                break;
            case "gives":
                int a = number(0, last);
                int b = number(0, last);
                if (a == b) {
                    throw new Fault(3, place);
                }
                if (!t.gives.add(a + " " + b)) {
                    throw new Fault(4, place);
                }
                t.later.get(a).add(b);
                next(";");
                break;
            default:
                otherLine(t);
        }
    }

    private void otherLine(Told t) {
        switch (token) {
            case "apart":
                if (t.apartTold) {
                    throw new Fault(4, place);
                }
                t.apart = number(0, 99);
                t.apartTold = true;
                next(";");
                break;
            case "quarry":
                if (!next("[a-z]+").matches("[a-f]")) {
                    throw new Fault(3, place);
                }
                int c = token.charAt(0) - 'a';
                if (t.quarry[c]) {
                    throw new Fault(4, place);
                }
                t.quarry[c] = true;
                t.price[c] = number(0, 99);
                t.daily[c] = number(1, 99);
                next(";");
                break;
            case "book":
                room(t.patterns.size(), 4);
                char[][] p = new char[4][];
                for (int r = 0; r < 4; r++) {
                    if (!next("[a-z]+").matches("[a-fx]{4}")) {
                        throw new Fault(3, place);
                    }
                    p[r] = token.toCharArray();
                }
                t.patterns.add(p);
                next(";");
                break;
            default:
                throw new Fault(2, place);
        }
    }

    private void room(int has, int most) {
        if (has == most) {
            throw new Fault(5, place);
        }
    }

    int text() {
        input = tape.toString();
        tape = new StringBuilder();
        from = 0;
        Told t = new Told();
        int lines = 0;
        try {
            while (!next().isEmpty()) {
                line(t);
                lines++;
            }
        } catch (Fault f) {
            fault = f.kind;
            return -10 - f.place;
        }
        fault = 0;
        told = t;
        return lines;
    }

    int fault() {
        return fault;
    }

    int told(int what) {
        if (what >= 10 && what < 16) {
            return told.price[what - 10];
        }
        if (what >= 20 && what < 26) {
            return told.daily[what - 20];
        }
        return what == 0 ? told.things.size() : what == 1 ? told.patterns.size() : what == 2 ? told.apart : -1;
    }

    private boolean noThing(int t) {
        return t < 0 || t >= told.things.size();
    }

    private static int bits(Iterable<Integer> set) {
        int bits = 0;
        for (int t : set) {
            bits |= 1 << t;
        }
        return bits;
    }

    /** By walking back from a THING until nothing new comes. */
    private TreeSet<Integer> allAhead(int t) {
        TreeSet<Integer> all = new TreeSet<>(told.later.get(t));
        for (int size = -1; size != all.size();) {
            size = all.size();
            for (int u : new ArrayList<>(all)) {
                all.addAll(told.later.get(u));
            }
        }
        return all;
    }

    int thing(int t, int what) {
        if (noThing(t) || what < 0 || what > 3) {
            return -1;
        }
        return what < 2 ? told.things.get(t)[what] : what == 2 ? bits(told.later.get(t)) : bits(allAhead(t));
    }

    private static char[][] turnRight(char[][] g) {
        int n = g.length;
        char[][] out = new char[n][n];
        for (int r = 0; r < n; r++) {
            for (int c = 0; c < n; c++) {
                out[c][n - 1 - r] = g[r][c];
            }
        }
        return out;
    }

    private static char[][] inWay(char[][] g, int way) {
        char[][] out = g;
        if (way >= 4) {
            out = new char[g.length][];
            for (int r = 0; r < g.length; r++) {
                out[r] = new StringBuilder(new String(g[r])).reverse().toString().toCharArray();
            }
        }
        for (int i = 0; i < way % 4; i++) {
            out = turnRight(out);
        }
        return out;
    }

    int pattern(int p, int way, int cell) {
        if (p < 0 || p >= told.patterns.size() || way < 0 || way > 7 || cell < 0 || cell > 15) {
            return -1;
        }
        char sign = inWay(told.patterns.get(p), way)[cell / 4][cell % 4];
        return sign == 'x' ? -4 : sign - 'a';
    }

    // ---- the floor

    int put(int cell, int v) {
        if (cell < 0 || cell > 63 || v < -1 || v > 5) {
            return -9;
        }
        int was = cells[cell];
        cells[cell] = v;
        filled.remove(cell);
        return was;
    }

    int at(int cell) {
        return cell < 0 || cell > 63 ? -9 : cells[cell];
    }

    /** What a COPY tells of each CELL: -1 nothing; null: it can not be there. */
    private int[] copyCells(int p, int way, int scale, int cell) {
        if (p < 0 || p >= told.patterns.size() || way < 0 || way > 7 || scale < 1 || scale > 2 || cell < 0 || cell > 63) {
            return null;
        }
        if (cell / 8 + 4 * scale > 8 || cell % 8 + 4 * scale > 8) {
            return null;
        }
        int[] out = new int[64];
        Arrays.fill(out, -1);
        char[][] g = inWay(told.patterns.get(p), way);
        for (int r = 0; r < 4 * scale; r++) {
            for (int c = 0; c < 4 * scale; c++) {
                char sign = g[r / scale][c / scale];
                out[cell + 8 * r + c] = sign == 'x' ? -1 : sign - 'a';
            }
        }
        return out;
    }

    /** AGREES, CLASHES, would fill. */
    private int[] meets(int[] copy) {
        int[] n = new int[3];
        for (int i = 0; i < 64; i++) {
            if (copy[i] >= 0) {
                n[cells[i] < 0 ? 2 : cells[i] == copy[i] ? 0 : 1]++;
            }
        }
        return n;
    }

    int lay(int p, int way, int scale, int cell) {
        int[] copy = copyCells(p, way, scale, cell);
        if (copy == null) {
            return -1;
        }
        int[] n = meets(copy);
        if (n[1] > 0) {
            return -2;
        }
        for (int i = 0; i < 64; i++) {
            if (copy[i] >= 0) {
                cells[i] = copy[i];
            }
        }
        return n[2];
    }

    // ---- which was ahead

    int ahead(int a, int b) {
        return noThing(a) || noThing(b) || a == b ? -1 : allAhead(b).contains(a) ? 1 : 0;
    }

    private TreeSet<Integer> inRings() {
        TreeSet<Integer> in = new TreeSet<>();
        for (int t = 0; t < told.things.size(); t++) {
            if (allAhead(t).contains(t)) {
                in.add(t);
            }
        }
        return in;
    }

    /** The shortest way back to the start, by trying all that pass no THING twice. */
    private int walk(int start, int at, int seen, int steps) {
        int least = 0;
        for (int u : told.later.get(at)) {
            int found = u == start ? steps : (seen >> u & 1) != 0 ? 0 : walk(start, u, seen | 1 << u, steps + 1);
            least = found > 0 && (least == 0 || found < least) ? found : least;
        }
        return least;
    }

    int rings(int what) {
        if (what == 0) {
            return bits(inRings());
        }
        int least = 0;
        for (int t : inRings()) {
            int found = walk(t, t, 1 << t, 1);
            least = least == 0 ? found : Math.min(least, found);
        }
        return what == 1 ? least : -1;
    }

    private Told ordersOf;
    private List<int[]> orders;

    /** All ORDERS, in their order; they are kept until another text is told. */
    private List<int[]> listed() {
        if (ordersOf != told) {
            ordersOf = told;
            orders = new ArrayList<>();
            list(new int[told.things.size()], 0);
        }
        return orders;
    }

    private void list(int[] row, int n) {
        if (n == row.length) {
            orders.add(row.clone());
            return;
        }
        for (int t = 0; t < row.length; t++) {
            int unmet = told.later.get(t).size();
            boolean laid = false;
            for (int i = 0; i < n; i++) {
                laid |= row[i] == t;
                unmet -= told.later.get(t).contains(row[i]) ? 1 : 0;
            }
            if (!laid && unmet == 0) {
                row[n] = t;
                list(row, n + 1);
            }
        }
    }

    private static int placeIn(int[] order, int t) {
        int i = 0;
        while (order[i] != t) {
            i++;
        }
        return i;
    }

    int rank(int t, int what) {
        if (noThing(t) || what < 0 || what > 1) {
            return -1;
        }
        if (!inRings().isEmpty()) {
            return -2;
        }
        int rank = what == 0 ? 99 : -1;
        for (int[] order : listed()) {
            int place = placeIn(order, t);
            rank = what == 0 ? Math.min(rank, place) : Math.max(rank, place);
        }
        return rank;
    }

    long orders() {
        return inRings().isEmpty() ? listed().size() : -2;
    }

    private static long part(long top, long bottom, int what) {
        long g = BigInteger.valueOf(top).gcd(BigInteger.valueOf(bottom)).longValue();
        return (what == 0 ? top : bottom) / g;
    }

    long likely(int a, int b, int what) {
        if (noThing(a) || noThing(b) || a == b || what < 0 || what > 1) {
            return -1;
        }
        if (!inRings().isEmpty()) {
            return -2;
        }
        long n = 0;
        for (int[] order : listed()) {
            n += placeIn(order, a) < placeIn(order, b) ? 1 : 0;
        }
        return part(n, listed().size(), what);
    }

    int begins(int what) {
        if (what < 0 || what > 1) {
            return -1;
        }
        if (!inRings().isEmpty()) {
            return -2;
        }
        int bits = 0;
        for (int[] order : listed()) {
            if (order.length > 0) {
                bits |= 1 << order[what == 0 ? 0 : order.length - 1];
            }
        }
        return bits;
    }

    int order(long k, int i) {
        if (k < 0 || noThing(i)) {
            return -1;
        }
        if (!inRings().isEmpty()) {
            return -2;
        }
        return k >= listed().size() ? -1 : listed().get((int) k)[i];
    }

    // ---- hands, borders

    private boolean noRow(int t) {
        return noThing(t) || told.things.get(t)[0] == 0;
    }

    int size(int t, int what) {
        if (noRow(t) || what < 0 || what > 1) {
            return -1;
        }
        int[] row = told.things.get(t);
        return (int) part(row[1], row[0], what);
    }

    int sure(int a, int b) {
        if (noRow(a) || noRow(b) || a == b) {
            return -1;
        }
        int[] x = told.things.get(a);
        int[] y = told.things.get(b);
        return Math.abs(10 * x[1] * y[0] - 10 * y[1] * x[0]) > told.apart * x[0] * y[0] ? 1 : 0;
    }

    private boolean oneHand(int set) {
        for (int a = 0; a < 12; a++) {
            for (int b = 0; b < a; b++) {
                if ((set >> a & set >> b & 1) != 0 && sure(a, b) == 1) {
                    return false;
                }
            }
        }
        return true;
    }

    /** The fewest hands of a set, by all ways to take one hand with its lowest ROW. */
    private int fewest(int set) {
        if (set == 0) {
            return 0;
        }
        int low = Integer.lowestOneBit(set);
        int rest = set ^ low;
        int least = 99;
        for (int with = rest;; with = with - 1 & rest) {
            if (oneHand(with | low)) {
                least = Math.min(least, 1 + fewest(rest ^ with));
            }
            if (with == 0) {
                return least;
            }
        }
    }

    int hands(int what) {
        int left = 0;
        for (int t = 0; t < told.things.size(); t++) {
            left |= noRow(t) ? 0 : 1 << t;
        }
        int most = fewest(left);
        if (what == 0) {
            return most;
        }
        for (int hand = 0; hand < most; hand++) {
            int least = -1;
            for (int t = 0; t < 12; t++) {
                if ((left >> t & 1) != 0 && (least < 0 || smaller(t, least))) {
                    least = t;
                }
            }
            int best = 0;
            for (int set = left; set != 0; set = set - 1 & left) {
                if ((set >> least & 1) != 0 && oneHand(set) && Integer.bitCount(set) > Integer.bitCount(best)
                        && fewest(left ^ set) == most - hand - 1) {
                    best = set;
                }
            }
            if (what == 10 + hand) {
                return best;
            }
            left ^= best;
        }
        return -1;
    }

    private boolean smaller(int a, int b) {
        int[] x = told.things.get(a);
        int[] y = told.things.get(b);
        return x[1] * y[0] < y[1] * x[0];
    }

    int knot(int place) {
        if (place < 0 || place > 999 || !border.isEmpty() && place <= border.get(border.size() - 1)) {
            return -1;
        }
        if (border.size() == 24) {
            return -3;
        }
        border.add(place);
        return border.size();
    }

    int wipe() {
        int had = border.size();
        border.clear();
        return had;
    }

    int slips(int k, int what) {
        if (k < 1 || k > 99 || what < 0 || what > 2) {
            return -1000000;
        }
        if (border.size() < 2) {
            return -1000002;
        }
        int n = 0;
        int first = -4;
        int by = 0;
        for (int i = border.size() - 2; i >= 0; i--) {
            int over = border.get(i + 1) - border.get(i) - k;
            by += over;
            if (over != 0) {
                n++;
                first = i;
            }
        }
        return what == 0 ? n : what == 1 ? first : by;
    }

    int knots() {
        int best = -2;
        for (int k = 99; k >= 1 && border.size() > 1; k--) {
            best = best < 0 || slips(k, 0) <= slips(best, 0) ? k : best;
        }
        return best;
    }

    int fits(int length, int k, int s, int what) {
        if (length < 1 || length > 999 || k < 1 || k > 99 || s < 0 || s > 9 || what < 0 || what > 2) {
            return -1;
        }
        // The fewest and the most knots, and the fewest odd ones, up to each place.
        int[][] upTo = new int[length + 1][];
        upTo[0] = new int[] {0, 0, 0};
        for (int place = 1; place <= length; place++) {
            for (int knot = k; knot <= k + s && knot <= place; knot++) {
                int[] was = upTo[place - knot];
                if (was != null) {
                    int[] now = upTo[place];
                    int odd = was[2] + (knot == k ? 0 : 1);
                    upTo[place] = now == null ? new int[] {was[0] + 1, was[1] + 1, odd}
                        : new int[] {Math.max(now[0], was[0] + 1), Math.min(now[1], was[1] + 1), Math.min(now[2], odd)};
                }
            }
        }
        return upTo[length] == null ? -4 : upTo[length][what];
    }

    // ---- the book

    int copy(int p, int way, int scale, int cell, int what) {
        int[] copy = copyCells(p, way, scale, cell);
        return copy == null || what < 0 || what > 2 ? -1 : meets(copy)[what];
    }

    /** All COPIES without CLASHES that AGREE in so many: PATTERN, WAY, SCALE, CELL, AGREES. */
    private List<int[]> clean(int least) {
        List<int[]> all = new ArrayList<>();
        for (int p = 0; p < told.patterns.size(); p++) {
            for (int scale = 1; scale <= 2; scale++) {
                for (int way = 0; way < 8; way++) {
                    for (int cell = 0; cell < 64; cell++) {
                        int[] copy = copyCells(p, way, scale, cell);
                        int[] n = copy == null ? null : meets(copy);
                        if (n != null && n[1] == 0 && n[0] >= least) {
                            all.add(new int[] {p, way, scale, cell, n[0]});
                        }
                    }
                }
            }
        }
        return all;
    }

    int best(int what) {
        if (what < 0 || what > 4) {
            return -1;
        }
        int[] best = null;
        for (int[] c : clean(1)) {
            best = best == null || c[4] > best[4] ? c : best;
        }
        return best == null ? -4 : best[what];
    }

    int copies(int p, int n) {
        if (p < 0 || p >= told.patterns.size() || n < 0 || n > 64) {
            return -1;
        }
        int sum = 0;
        for (int[] c : clean(n)) {
            sum += c[0] == p ? 1 : 0;
        }
        return sum;
    }

    // ---- what is lost

    private static final int[][] IMAGES = images();

    /** For each WAY, where each CELL of THE FLOOR comes to: read off a floor of numbers that is turned. */
    private static int[][] images() {
        char[][] numbers = new char[8][8];
        for (int i = 0; i < 64; i++) {
            numbers[i / 8][i % 8] = (char) i;
        }
        int[][] images = new int[8][64];
        for (int way = 0; way < 8; way++) {
            char[][] turned = inWay(numbers, way);
            for (int i = 0; i < 64; i++) {
                images[way][turned[i / 8][i % 8]] = i;
            }
        }
        return images;
    }

    int symmetries() {
        int bits = 0;
        for (int way = 1; way < 8; way++) {
            boolean holds = true;
            for (int i = 0; i < 64; i++) {
                int there = cells[IMAGES[way][i]];
                holds &= cells[i] < 0 || there < 0 || cells[i] == there;
            }
            bits |= holds ? 1 << way : 0;
        }
        return bits;
    }

    private static int verdict(TreeSet<Integer> said) {
        return said.isEmpty() ? -4 : said.size() > 1 ? -2 : said.first();
    }

    private int bySymmetry(int cell) {
        TreeSet<Integer> said = new TreeSet<>();
        int hold = symmetries();
        for (int way = 1; way < 8; way++) {
            for (int i = 0; i < 64 && (hold >> way & 1) != 0; i++) {
                if (cells[i] >= 0 && (IMAGES[way][i] == cell || IMAGES[way][cell] == i)) {
                    said.add(cells[i]);
                }
            }
        }
        return verdict(said);
    }

    private int byBook(int cell, List<int[]> agreeing) {
        TreeSet<Integer> said = new TreeSet<>();
        for (int[] c : agreeing) {
            int colour = copyCells(c[0], c[1], c[2], c[3])[cell];
            if (colour >= 0) {
                said.add(colour);
            }
        }
        return verdict(said);
    }

    private int sureOf(int cell, List<int[]> agreeing) {
        int one = bySymmetry(cell);
        int other = byBook(cell, agreeing);
        if (one == -2 || other == -2 || one >= 0 && other >= 0 && one != other) {
            return -2;
        }
        return one >= 0 ? one : other;
    }

    int may(int cell, int how) {
        if (cell < 0 || cell > 63 || how < 0 || how > 2 || cells[cell] >= 0) {
            return -1;
        }
        return how == 0 ? bySymmetry(cell) : how == 1 ? byBook(cell, clean(4)) : sureOf(cell, clean(4));
    }

    int lost(int what) {
        if (what < 0 || what > 2) {
            return -1;
        }
        List<int[]> agreeing = clean(4);
        int[] n = new int[3];
        for (int i = 0; i < 64; i++) {
            if (cells[i] < 0) {
                int v = sureOf(i, agreeing);
                n[v >= 0 ? 0 : v == -2 ? 1 : 2]++;
            }
        }
        return n[what];
    }

    int fill() {
        List<int[]> agreeing = clean(4);
        int[] now = cells.clone();
        filled.clear();
        for (int i = 0; i < 64; i++) {
            if (cells[i] < 0 && sureOf(i, agreeing) >= 0) {
                now[i] = sureOf(i, agreeing);
                filled.add(i);
            }
        }
        System.arraycopy(now, 0, cells, 0, 64);
        undoable = true;
        return filled.size();
    }

    int undo() {
        if (!undoable) {
            return -2;
        }
        undoable = false;
        for (int i : filled) {
            cells[i] = -1;
        }
        return filled.size();
    }

    // ---- stones, panels

    int stones(int colour) {
        if (colour < 0 || colour > 5) {
            return -1;
        }
        int n = 0;
        for (int c : cells) {
            n += c == colour ? 1 : 0;
        }
        return n;
    }

    long works(int what) {
        if (what < 0 || what > 2) {
            return -1;
        }
        long cost = 0;
        BigInteger bottom = BigInteger.ONE;
        for (int c = 0; c < 6; c++) {
            cost += (long) stones(c) * told.price[c];
            bottom = bottom.multiply(BigInteger.valueOf(told.daily[c]));
        }
        BigInteger top = BigInteger.ZERO;
        for (int c = 0; c < 6; c++) {
            top = top.add(bottom.divide(BigInteger.valueOf(told.daily[c])).multiply(BigInteger.valueOf(stones(c))));
        }
        BigInteger g = top.gcd(bottom);
        return what == 0 ? cost : (what == 1 ? top : bottom).divide(g).longValueExact();
    }

    private static int figure(int n, int i) {
        return Integer.parseInt(Integer.toString(n + 256, 4).substring(1 + i, 2 + i));
    }

    private static boolean noFour(int n) {
        return n < 0 || n > 255;
    }

    private static boolean unlike(int n) {
        return !noFour(n) && figure(n, 0) + figure(n, 1) + figure(n, 2) + figure(n, 3) == 6
            && figure(n, 0) * figure(n, 1) + figure(n, 2) * figure(n, 3) >= 0
            && new TreeSet<>(List.of(figure(n, 0), figure(n, 1), figure(n, 2), figure(n, 3))).size() == 4;
    }

    private char[][] panel(int place) {
        char[][] p = new char[4][4];
        for (int i = 0; i < 16; i++) {
            p[i / 4][i % 4] = (char) (cells[(place / 2 * 4 + i / 4) * 8 + place % 2 * 4 + i % 4] + 1);
        }
        return p;
    }

    private static void setPanel(int[] floor, int place, char[][] p) {
        for (int i = 0; i < 16; i++) {
            floor[(place / 2 * 4 + i / 4) * 8 + place % 2 * 4 + i % 4] = p[i / 4][i % 4] - 1;
        }
    }

    int mix(int places, int turns) {
        if (!unlike(places) || noFour(turns)) {
            return -1;
        }
        int[] now = new int[64];
        for (int i = 0; i < 4; i++) {
            setPanel(now, figure(places, i), inWay(panel(i), figure(turns, i)));
        }
        System.arraycopy(now, 0, cells, 0, 64);
        undoable = false;
        filled.clear();
        return 1;
    }

    private static int seamsOf(int[] floor) {
        int n = 0;
        for (int i = 0; i < 64; i++) {
            n += i % 8 == 3 && floor[i] >= 0 && floor[i] == floor[i + 1] ? 1 : 0;
            n += i / 8 == 3 && floor[i] >= 0 && floor[i] == floor[i + 8] ? 1 : 0;
        }
        return n;
    }

    int seams() {
        return seamsOf(cells);
    }

    int together(int what) {
        if (what < 0 || what > 3) {
            return -1;
        }
        int[] best = {-1, 0, 0, 0};
        char[][][] turned = new char[16][][];
        for (int i = 0; i < 16; i++) {
            turned[i] = inWay(panel(i / 4), i % 4);
        }
        int[] now = new int[64];
        for (int panels = 0; panels < 256; panels++) {
            for (int turns = 0; turns < 256 && unlike(panels); turns++) {
                for (int place = 0; place < 4; place++) {
                    int shift = 6 - 2 * place;
                    setPanel(now, place, turned[4 * (panels >> shift & 3) + (turns >> shift & 3)]);
                }
                int sum = seamsOf(now);
                if (sum > best[0]) {
                    best = new int[] {sum, panels, turns, 0};
                }
                best[3] += sum == best[0] ? 1 : 0;
            }
        }
        return best[what];
    }

    // ---- sheets: real rows, and the machine's own faults

    int sheet(int k, int lane, int n) {
        if (k < 0 || k > 3 || lane < 0 || lane > 2 || n > 64) {
            return -1;
        }
        try {
            sheets[k] = lane == 0 ? new byte[n] : lane == 1 ? new short[n] : new int[n];
        } catch (NegativeArraySizeException e) {
            return -14;
        }
        return 1;
    }

    int write(int k, int i, int v) {
        if (k < 0 || k > 3) {
            return -1;
        }
        try {
            if (sheets[k] instanceof byte[] row) {
                row[i] = (byte) v;
            } else if (sheets[k] instanceof short[] row) {
                row[i] = (short) v;
            } else {
                ((int[]) sheets[k])[i] = v;
            }
        } catch (NullPointerException e) {
            return -11;
        } catch (ArrayIndexOutOfBoundsException e) {
            return -12;
        }
        return 1;
    }

    private static int get(Object sheet, int lane, int i) {
        return lane == 0 ? ((byte[]) sheet)[i] : lane == 1 ? ((short[]) sheet)[i] : ((int[]) sheet)[i];
    }

    int read(int k, int lane, int f, int c, int n) {
        if (k < 0 || k > 3 || lane < 0 || lane > 2 || c < 0 || n < 0 || n > 64 || (long) c + n > 64) {
            return -1;
        }
        int[] now = cells.clone();
        Arrays.fill(now, c, c + n, -1);
        int found = 0;
        int i = 0;
        try {
            for (; i < n; i++) {
                int v = get(sheets[k], lane, f + i);
                if (v < -1 || v > 5) {
                    return -20 - i;
                }
                now[c + i] = v;
            }
        } catch (NullPointerException e) {
            found = 1;
        } catch (ArrayIndexOutOfBoundsException e) {
            found = 2;
        } catch (ClassCastException e) {
            found = 3;
        }
        for (int j = c; j < c + n; j++) {
            put(j, now[j]);
        }
        torn = found;
        return i;
    }

    int torn() {
        return torn;
    }

    int count(int what) {
        int rows = 0;
        for (int[] t : told.things) {
            rows += t[0] > 0 ? 1 : 0;
        }
        switch (what) {
            case 0: return 64 - stones(0) - stones(1) - stones(2) - stones(3) - stones(4) - stones(5);
            case 1: return border.size();
            case 2: return rows;
            case 3: return told.things.size() - rows;
            case 4: return tape.length();
            case 5: return sheets[0] == null ? -4 : java.lang.reflect.Array.getLength(sheets[0]);
            default: return -1;
        }
    }
}
