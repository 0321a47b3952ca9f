/** Promises 35 to 39: stones, works, mix, seams, together. */
public final class StonesTest {
    private static final Due due = new Due();
    private static final String FLOOR =
        "abcdefab cdefabcd efabcdef abcdeaab bbcdefab cdefabcc efabcdef abcdefa.".replace(" ", "");

    public static void main(String[] args) {
        stones();
        works();
        mixing();
        seams();
        together();
        due.end();
    }

    private static void stones() {
        BeastFloor x = new BeastFloor();
        Due.lay(x, FLOOR);
        for (int c = 0; c < 6; c++) {
            int n = 0;
            for (int i = 0; i < 64; i++) {
                n += FLOOR.charAt(i) == 'a' + c ? 1 : 0;
            }
            due.is("stones(" + c + ")", x.stones(c), n);
        }
        due.is("stones(6)", x.stones(6), -1);
        due.is("stones(-1)", x.stones(-1), -1);
    }

    private static void works() {
        BeastFloor x = due.told("quarry a 0 3;quarry b 99 99;quarry c 2 97;quarry d 3 89;quarry e 4 83;quarry f 5 79;");
        due.is("works(0) of nothing", x.works(0), 0);
        due.is("works(1) of nothing", x.works(1), 0);
        due.is("works(2) of nothing", x.works(2), 1);
        for (int c = 0; c < 6; c++) {
            x.put(c, c);
        }
        due.is("works(0)", x.works(0), 113);
        // 1/3 + 1/99 + 1/97 + 1/89 + 1/83 + 1/79, the denominator beyond all ints.
        long bottom = 99L * 97 * 89 * 83 * 79;
        long top = bottom / 3 + bottom / 99 + bottom / 97 + bottom / 89 + bottom / 83 + bottom / 79;
        due.is("works(1)", x.works(1), top);
        due.is("works(2)", x.works(2), bottom);
        due.is("works(3)", x.works(3), -1);
        due.is("works(-1)", x.works(-1), -1);
        x.put(6, 0);
        x.put(7, 0);
        for (int c = 1; c < 6; c++) {
            x.put(c, -1);
        }
        due.is("works(1): a whole number", x.works(1), 1);
        due.is("works(2)", x.works(2), 1);
    }

    private static void mixing() {
        BeastFloor x = new BeastFloor();
        Due.lay(x, FLOOR);
        due.is("mix to where it was", x.mix(27, 0), 1);
        due.holds("the same", Due.floor(x).equals(FLOOR));
        // 0 to 1, 1 to 3, 2 to 0, 3 to 2; turned by 1, 2, 3, 0.
        due.is("mix", x.mix(1 * 64 + 3 * 16 + 0 * 4 + 2, 1 * 64 + 2 * 16 + 3 * 4), 1);
        String want = "dfbd aeca ceac bfdb bdfb caec bcea dbfd"
            + " efab baae abcc fedc cdef dcba efa. bafe";
        due.is("cells", want.replace(" ", "").length(), 64);
        due.holds("mixed: " + Due.floor(x), Due.floor(x).equals(want.replace(" ", "")));
        // Back again: by the places turned about, and the rest of each turn.
        due.is("mix back", x.mix(2 * 64 + 0 * 16 + 3 * 4 + 1, 1 * 64 + 3 * 16 + 0 * 4 + 2), 1);
        due.holds("back: " + Due.floor(x), Due.floor(x).equals(FLOOR));
        int[][] bad = {{-1, 0}, {256, 0}, {283, 0}, {0, 0}, {26, 0}, {255, 0}, {27, -1}, {27, 256},
            {Integer.MIN_VALUE, 0}, {27, Integer.MIN_VALUE}};
        for (int[] b : bad) {
            due.is("mix(" + b[0] + ", " + b[1] + ")", x.mix(b[0], b[1]), -1);
        }
        due.holds("unchanged", Due.floor(x).equals(FLOOR));
        int taken = 0;
        for (int places = 0; places < 256; places++) {
            taken += x.mix(places, 0) == 1 ? 1 : 0;
        }
        due.is("24 ways to place", taken, 24);
    }

    private static void seams() {
        BeastFloor x = new BeastFloor();
        due.is("seams() of LOST CELLS", x.seams(), 0);
        for (int cell = 0; cell < 64; cell++) {
            x.put(cell, 2);
        }
        due.is("seams() of one COLOUR", x.seams(), 16);
        x.put(27, 3);
        due.is("seams() with another one in the midst", x.seams(), 14);
        x.put(27, -1);
        due.is("seams() with a LOST one", x.seams(), 14);
        x.put(59, 1);
        due.is("seams() at the edge", x.seams(), 13);
        x.put(0, 1);
        due.is("seams(): the corner is on none", x.seams(), 13);
    }

    private static void together() {
        BeastFloor x = new BeastFloor();
        due.is("together(1) of nothing", x.together(1), 27);
        due.is("together(2) of nothing", x.together(2), 0);
        due.is("together(3) of nothing", x.together(3), 6144);
        due.is("together(4)", x.together(4), -1);
        due.is("together(-1)", x.together(-1), -1);
        Due.lay(x, FLOOR);
        weigh(x);
        x.mix(2 * 64 + 0 * 16 + 3 * 4 + 1, 1 * 64 + 3 * 16 + 0 * 4 + 2);
        weigh(x);
        x.put(28, -1);
        weigh(x);
        x.lay(0, 0, 1, 0);
        weigh(x);
    }

    /** Against all ways to lift another object's floor: the PANEL at a place comes from where mix() sends it. */
    private static void weigh(BeastFloor x) {
        String floor = Due.floor(x);
        int sum = -1;
        int places = 0;
        int turns = 0;
        int ways = 0;
        for (int p = 0; p < 256; p++) {
            int to = placesOf(p);
            for (int t = 0; to >= 0 && t < 256; t++) {
                BeastFloor y = new BeastFloor();
                Due.lay(y, floor);
                y.mix(to, turnsOf(p, t));
                int seams = y.seams();
                if (seams > sum) {
                    sum = seams;
                    places = p;
                    turns = t;
                    ways = 0;
                }
                ways += seams == sum ? 1 : 0;
            }
        }
        due.is("together(0)", x.together(0), sum);
        due.is("together(1)", x.together(1), places);
        due.is("together(2)", x.together(2), turns);
        due.is("together(3)", x.together(3), ways);
    }

    private static int figure(int figures, int i) {
        return figures >> (6 - 2 * i) & 3;
    }

    /** From PANELS at places to the place of each PANEL; -1: two are alike. */
    private static int placesOf(int panels) {
        int to = 0;
        int seen = 0;
        for (int place = 0; place < 4; place++) {
            to |= place << (6 - 2 * figure(panels, place));
            seen |= 1 << figure(panels, place);
        }
        return seen == 15 ? to : -1;
    }

    private static int turnsOf(int panels, int turns) {
        int each = 0;
        for (int place = 0; place < 4; place++) {
            each |= figure(turns, place) << (6 - 2 * figure(panels, place));
        }
        return each;
    }
}
