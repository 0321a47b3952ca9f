import java.util.Random;

/** Random runs of up to 512 calls, the class against Model; the seeds are fixed, so every run is the same. */
public final class RandomRunsTest {
    private static final Due due = new Due();
    private static Random random;
    private static BeastFloor x;
    private static Model m;
    private static int calls;

    public static void main(String[] args) {
        int runs = args.length > 0 ? Integer.parseInt(args[0]) : 150;
        long seed = args.length > 1 ? Long.parseLong(args[1]) : 1;
        for (int i = 0; i < runs; i++) {
            random = new Random(seed * 1000003 + i);
            x = new BeastFloor();
            m = new Model();
            calls = 0;
            int style = random.nextInt(4);
            while (calls < 500) {
                step(style);
            }
        }
        due.end();
    }

    private static int n(int least, int most) {
        return least + random.nextInt(most - least + 1);
    }

    private static boolean chance(int percent) {
        return random.nextInt(100) < percent;
    }

    /** Mostly within its bounds, else around them or far beyond. */
    private static int v(int least, int most) {
        if (chance(94)) {
            return n(least, most);
        }
        int[] odd = {least - 1, most + 1, -1, 0, Integer.MIN_VALUE, Integer.MAX_VALUE, n(-300, 300), random.nextInt()};
        return odd[random.nextInt(odd.length)];
    }

    private static void check(String call, long got, long want) {
        calls++;
        due.is(call, got, want);
    }

    private static void step(int style) {
        int what = n(0, 99);
        if (what < 6) {
            text(style);
        } else if (what < 30) {
            floor(style);
        } else if (what < 50) {
            ahead();
        } else if (what < 65) {
            hands();
        } else if (what < 85) {
            lost();
        } else {
            sheets();
        }
        state();
    }

    private static String word() {
        String[] words = {"row", "patch", "gives", "apart", "quarry", "book", "ro", "a", "f", "g", "abcd", "xxxx", "abx", "q"};
        return words[random.nextInt(words.length)];
    }

    private static String four(int style) {
        StringBuilder b = new StringBuilder();
        for (int i = 0; i < 4; i++) {
            b.append("xabcdef".charAt(chance(25) ? 0 : n(1, style == 0 ? 6 : 2)));
        }
        return b.toString();
    }

    private static String line(int things, int style) {
        int t = Math.max(0, things - 1);
        switch (n(0, 9)) {
            case 0:
            case 1:
            case 2: return "row " + v(1, style == 1 ? 4 : 99) + " " + v(1, style == 1 ? 20 : 999) + ";";
            case 3:
            case 4:
                StringBuilder b = new StringBuilder("patch");
                for (int i = 0; i < t; i++) {
                    b.append(chance(20) ? " " + (chance(95) ? i : v(0, t)) : "");
                }
                return b + ";";
            case 5:
            case 6:
                int a = n(0, t);
                int c = n(0, t);
                // Mostly the later number gives way, so that not every text has a RING.
                return "gives " + (chance(90) ? Math.max(a, c) + " " + Math.min(a, c) : a + " " + c) + ";";
            case 7: return chance(30) ? "apart " + v(0, 99) + ";" : "";
            case 8: return chance(40) ? "quarry " + (char) n('a', 'f') + v(0, 99) + " " + v(1, 99) + ";" : "";
            default: return "book " + four(style) + " " + four(style) + " " + four(style) + " " + four(style) + ";";
        }
    }

    private static void text(int style) {
        StringBuilder b = new StringBuilder();
        int lines = n(0, 14);
        int most = chance(10) ? 13 : n(2, 7);
        int things = 0;
        for (int i = 0; i < lines; i++) {
            String l = line(things, style);
            boolean isThing = l.startsWith("row") || l.startsWith("patch");
            if (isThing && things >= most || l.startsWith("gives") && things < 2) {
                continue;
            }
            things += isThing ? 1 : 0;
            b.append(chance(10) ? " " : "").append(l.replace(" ", chance(5) ? "  " : " "));
        }
        if (chance(25) && b.length() > 0) {
            int at = random.nextInt(b.length());
            switch (n(0, 3)) {
                case 0: b.deleteCharAt(at); break;
                case 1: b.setCharAt(at, (char) n(0, 255)); break;
                case 2: b.insert(at, " " + word() + " "); break;
                default: b.setLength(at); break;
            }
        }
        if (things > 7 && chance(90)) {
            // The Model lists all ORDERS: so many THINGS only in a chain, or with a FAULT.
            for (int t = 1; t < Math.min(things, 12); t++) {
                b.append("gives ").append(t).append(' ').append(t - 1).append(';');
            }
        } else if (things > 7) {
            b.append("row 0;");
        }
        feed(b.toString());
    }

    private static void feed(String text) {
        for (int from = 0; from < text.length(); from += 8) {
            long eight = 0;
            for (int i = 0; i < 8; i++) {
                eight = eight << 8 | (from + i < text.length() ? text.charAt(from + i) : ' ');
            }
            check("feed", x.feed(eight), m.feed(eight));
        }
        int n = chance(95) ? Math.min(text.length(), m.count(4)) : v(0, 400);
        check("end " + n, x.end(n), m.end(n));
        check("text of '" + text + "'", x.text(), m.text());
        check("fault of '" + text + "'", x.fault(), m.fault());
    }

    private static void floor(int style) {
        int c = v(0, 63);
        int colour = style == 0 ? v(-1, 5) : v(-1, 1);
        switch (n(0, 11)) {
            case 0:
            case 1: check("put", x.put(c, colour), m.put(c, colour)); break;
            case 2:
                // An orbit or so, that SYMMETRIES may hold.
                for (int i = 0; i < 8; i++) {
                    int cell = n(0, 63);
                    check("put", x.put(cell, colour), m.put(cell, colour));
                    check("put", x.put(63 - cell, colour), m.put(63 - cell, colour));
                }
                break;
            case 3:
            case 4:
            case 5:
                int p = v(0, 3);
                int way = v(0, 7);
                int scale = chance(90) ? 1 : v(1, 2);
                int cell = scale == 2 ? 0 : chance(90) ? n(0, 4) * 8 + n(0, 4) : c;
                check("lay", x.lay(p, way, scale, cell), m.lay(p, way, scale, cell));
                break;
            case 6:
                int keep = n(0, 63);
                for (int i = keep; i < 64 && chance(95); i++) {
                    check("put", x.put(i, -1), m.put(i, -1));
                }
                break;
            case 7:
                int places = chance(50) ? new int[] {27, 228, 177, 99, 78, 45}[n(0, 5)] : v(0, 255);
                int turns = v(0, 255);
                if (chance(60)) {
                    check("mix", x.mix(places, turns), m.mix(places, turns));
                }
                break;
            case 8: check("seams", x.seams(), m.seams()); break;
            case 9:
                int what = v(0, 3);
                check("together", x.together(what), m.together(what));
                break;
            case 10: check("stones", x.stones(c % 7), m.stones(c % 7)); break;
            default:
                int w = v(0, 2);
                check("works", x.works(w), m.works(w));
                break;
        }
    }

    private static void ahead() {
        int most = Math.max(0, m.told(0) - 1);
        int a = v(0, most);
        int b = v(0, most);
        int what = v(0, 1);
        long k = chance(80) ? Math.floorMod(random.nextLong(), Math.max(1, m.orders()) + 1) : random.nextLong();
        int t = v(0, 3);
        check("thing", x.thing(a, t), m.thing(a, t));
        check("ahead", x.ahead(a, b), m.ahead(a, b));
        check("rings", x.rings(what), m.rings(what));
        check("rank", x.rank(a, what), m.rank(a, what));
        check("orders", x.orders(), m.orders());
        check("likely", x.likely(a, b, what), m.likely(a, b, what));
        check("begins", x.begins(what), m.begins(what));
        check("order", x.order(k, b), m.order(k, b));
    }

    private static void hands() {
        int most = Math.max(0, m.told(0) - 1);
        int a = v(0, most);
        int b = v(0, most);
        int what = v(0, 1);
        int h = chance(30) ? 0 : v(10, 14);
        switch (n(0, 5)) {
            case 0: check("size", x.size(a, what), m.size(a, what)); break;
            case 1: check("sure", x.sure(a, b), m.sure(a, b)); break;
            case 2: check("hands " + h, x.hands(h), m.hands(h)); break;
            case 3:
                int last = n(0, 900);
                for (int i = 0; i < 6 && chance(90); i++) {
                    last += n(0, 3);
                    check("knot", x.knot(last), m.knot(last));
                }
                if (chance(20)) {
                    check("wipe", x.wipe(), m.wipe());
                }
                break;
            case 4:
                int k = v(1, chance(80) ? 4 : 99);
                int s = v(0, 2);
                check("slips", x.slips(k, s), m.slips(k, s));
                check("knots", x.knots(), m.knots());
                break;
            default:
                int length = v(1, chance(50) ? 60 : 999);
                int kk = v(1, chance(50) ? 12 : 99);
                int over = v(0, 9);
                int f = v(0, 2);
                check("fits", x.fits(length, kk, over, f), m.fits(length, kk, over, f));
                break;
        }
    }

    private static void lost() {
        int p = v(0, 3);
        int c = v(0, 63);
        int how = v(0, 2);
        switch (n(0, 8)) {
            case 0:
                int way = v(0, 7);
                int scale = v(1, 2);
                int cell = chance(50) ? 0 : c;
                check("copy", x.copy(p, way, scale, cell, how), m.copy(p, way, scale, cell, how));
                check("pattern", x.pattern(p, way, c % 17), m.pattern(p, way, c % 17));
                break;
            case 1:
                int b = v(0, 4);
                check("best", x.best(b), m.best(b));
                break;
            case 2:
                int n = chance(60) ? n(0, 6) : v(0, 64);
                check("copies", x.copies(p, n), m.copies(p, n));
                break;
            case 3: check("symmetries", x.symmetries(), m.symmetries()); break;
            case 4:
            case 5: check("may", x.may(c, how), m.may(c, how)); break;
            case 6: check("lost", x.lost(how), m.lost(how)); break;
            case 7: check("fill", x.fill(), m.fill()); break;
            default: check("undo", x.undo(), m.undo()); break;
        }
    }

    private static void sheets() {
        int k = v(0, 3);
        // Mostly the same lane for a SHEET, so that many are read as of their own.
        int lane = chance(85) ? k & 1 : v(0, 2);
        int size = v(0, chance(50) ? 64 : 30);
        switch (n(0, 3)) {
            case 0: check("sheet", x.sheet(k, lane, size), m.sheet(k, lane, size)); break;
            case 1:
            case 2:
                for (int i = 0; i < 5; i++) {
                    int at = v(0, 30);
                    int value = chance(90) ? n(-1, 5) : chance(50) ? n(-1, 5) + (n(-2, 2) << (chance(50) ? 8 : 16)) : v(-1, 5);
                    check("write", x.write(k, at, value), m.write(k, at, value));
                }
                break;
            default:
                int as = lane;
                int f = v(0, 30);
                int n = chance(20) ? 0 : v(0, 12);
                int c = v(0, 60);
                check("read", x.read(k, as, f, c, n), m.read(k, as, f, c, n));
                check("torn", x.torn(), m.torn());
                break;
        }
    }

    /** What each object holds, beside the calls that are counted. */
    private static void state() {
        for (int cell = 0; cell < 64; cell++) {
            if (x.at(cell) != m.at(cell)) {
                due.is("at(" + cell + ")", x.at(cell), m.at(cell));
            }
        }
        for (int what = 0; what < 7; what++) {
            due.is("count(" + what + ")", x.count(what), m.count(what));
        }
        int what = v(0, 27);
        due.is("told(" + what + ")", x.told(what), m.told(what));
        due.is("torn()", x.torn(), m.torn());
        due.is("fault()", x.fault(), m.fault());
    }
}
