/** Promises 19 to 26: size, sure, hands, knot, wipe, slips, knots, fits. */
public final class HandsTest {
    private static final Due due = new Due();

    public static void main(String[] args) {
        sizes();
        sureOfTwo();
        handsOfRows();
        border();
        slipping();
        fitting();
        due.end();
    }

    private static void sizes() {
        BeastFloor x = due.told("row 12 18;row 99 999;row 7 7;patch;row 10 3;");
        int[][] want = {{3, 2}, {111, 11}, {1, 1}, {-1, -1}, {3, 10}};
        for (int t = 0; t < 5; t++) {
            due.is("size(" + t + ", 0)", x.size(t, 0), want[t][0]);
            due.is("size(" + t + ", 1)", x.size(t, 1), want[t][1]);
        }
        due.is("size(5, 0)", x.size(5, 0), -1);
        due.is("size(-1, 0)", x.size(-1, 0), -1);
        due.is("size(0, 2)", x.size(0, 2), -1);
        due.is("size(0, -1)", x.size(0, -1), -1);
    }

    private static void sureOfTwo() {
        // 3/2 and 5/2 are just 1 apart: not more than 10 by 10.
        BeastFloor x = due.told("row 2 3;row 2 5;row 99 248;patch;");
        due.is("sure(0, 1)", x.sure(0, 1), 0);
        due.is("sure(1, 0)", x.sure(1, 0), 0);
        due.is("sure(0, 2)", x.sure(0, 2), 1);
        due.is("sure(2, 0)", x.sure(2, 0), 1);
        due.is("sure(0, 0)", x.sure(0, 0), -1);
        due.is("sure(0, 3)", x.sure(0, 3), -1);
        due.is("sure(3, 0)", x.sure(3, 0), -1);
        due.is("sure(0, 4)", x.sure(0, 4), -1);
        due.is("sure(-1, 0)", x.sure(-1, 0), -1);
        BeastFloor y = due.told("apart 0;row 3 1;row 6 2;row 98 33;");
        due.is("sure of the same SIZE", y.sure(0, 1), 0);
        due.is("sure of another SIZE", y.sure(0, 2), 1);
        BeastFloor z = due.told("apart 99;row 1 1;row 99 999;row 1 999;");
        due.is("sure(0, 1)", z.sure(0, 1), 0);
        due.is("sure(1, 2)", z.sure(1, 2), 1);
    }

    private static void handsOfRows() {
        BeastFloor x = due.told("patch;");
        due.is("hands(0) without ROWS", x.hands(0), 0);
        due.is("hands(10) without ROWS", x.hands(10), -1);
        // SIZES 3, 1, 2, a PATCH, 5/2, 1: the least takes what is within 1 of it, though 2 and 3 would go together.
        BeastFloor y = due.told("row 1 3;row 1 1;row 1 2;patch;row 2 5;row 2 2;");
        due.is("hands(0)", y.hands(0), 2);
        due.is("hands(10)", y.hands(10), 2 + 4 + 32);
        due.is("hands(11)", y.hands(11), 1 + 16);
        due.is("hands(12)", y.hands(12), -1);
        due.is("hands(1)", y.hands(1), -1);
        due.is("hands(9)", y.hands(9), -1);
        due.is("hands(-1)", y.hands(-1), -1);
        due.is("hands(max)", y.hands(Integer.MAX_VALUE), -1);
        BeastFloor all = due.told("apart 0;row 1 12;row 1 11;row 1 10;row 1 9;row 1 8;row 1 7;"
            + "row 1 6;row 1 5;row 1 4;row 1 3;row 1 2;row 1 1;");
        due.is("hands(0)", all.hands(0), 12);
        for (int i = 0; i < 12; i++) {
            due.is("hands(10 + i)", all.hands(10 + i), 1 << (11 - i));
        }
        due.is("hands(22)", all.hands(22), -1);
    }

    private static void border() {
        BeastFloor x = new BeastFloor();
        due.is("wipe()", x.wipe(), 0);
        due.is("knot(-1)", x.knot(-1), -1);
        due.is("knot(1000)", x.knot(1000), -1);
        due.is("knot(0)", x.knot(0), 1);
        due.is("knot(0)", x.knot(0), -1);
        for (int i = 1; i < 24; i++) {
            due.is("knot(" + i + ")", x.knot(i), i + 1);
        }
        due.is("knot, the 25th", x.knot(24), -3);
        due.is("knot, the 25th and not above", x.knot(23), -1);
        due.is("wipe()", x.wipe(), 24);
        due.is("count(1)", x.count(1), 0);
        due.is("knot(0) anew", x.knot(0), 1);
        due.is("wipe()", x.wipe(), 1);
    }

    private static void slipping() {
        BeastFloor x = new BeastFloor();
        due.is("slips(1, 0)", x.slips(1, 0), -1000002);
        due.is("slips(0, 0)", x.slips(0, 0), -1000000);
        due.is("knots()", x.knots(), -2);
        x.knot(100);
        due.is("slips(1, 0)", x.slips(1, 0), -1000002);
        due.is("knots()", x.knots(), -2);
        x.knot(105);
        due.is("slips(5, 0)", x.slips(5, 0), 0);
        due.is("slips(5, 1)", x.slips(5, 1), -4);
        due.is("slips(5, 2)", x.slips(5, 2), 0);
        due.is("slips(99, 2)", x.slips(99, 2), -94);
        due.is("slips(4, 1)", x.slips(4, 1), 0);
        due.is("knots()", x.knots(), 5);
        x.knot(110);
        x.knot(113);
        x.knot(116);
        due.is("slips(5, 0)", x.slips(5, 0), 2);
        due.is("slips(5, 1)", x.slips(5, 1), 2);
        due.is("slips(3, 0)", x.slips(3, 0), 2);
        due.is("slips(3, 1)", x.slips(3, 1), 0);
        due.is("slips(3, 2)", x.slips(3, 2), 4);
        due.is("knots(), of several the least", x.knots(), 3);
        due.is("slips(100, 0)", x.slips(100, 0), -1000000);
        due.is("slips(5, -1)", x.slips(5, -1), -1000000);
        due.is("slips(5, 3)", x.slips(5, 3), -1000000);
        BeastFloor longest = new BeastFloor();
        longest.knot(0);
        longest.knot(99);
        due.is("knots(), the longest", longest.knots(), 99);
        longest.knot(199);
        due.is("knots() with a slip", longest.knots(), 99);
        due.is("slips(99, 1)", longest.slips(99, 1), 1);
        BeastFloor far = new BeastFloor();
        far.knot(0);
        far.knot(999);
        due.is("knots() of none that fits", far.knots(), 1);
        due.is("slips(1, 2)", far.slips(1, 2), 998);
    }

    private static void fitting() {
        BeastFloor x = new BeastFloor();
        for (int length = 1; length <= 130; length++) {
            for (int k = 1; k <= 12; k++) {
                for (int s = 0; s <= 9; s++) {
                    fitted(x, length, k, s);
                }
            }
        }
        fitted(x, 999, 99, 9);
        fitted(x, 999, 99, 0);
        fitted(x, 990, 99, 0);
        int[][] bad = {{0, 1, 1, 0}, {1000, 1, 1, 0}, {1, 0, 1, 0}, {1, 100, 1, 0}, {1, 1, -1, 0}, {1, 1, 10, 0},
            {1, 1, 1, -1}, {1, 1, 1, 3}};
        for (int[] b : bad) {
            due.is("fits of a number not as told", x.fits(b[0], b[1], b[2], b[3]), -1);
        }
    }

    /** Against a walk over all numbers of knots and of those that are not k long. */
    private static void fitted(BeastFloor x, int length, int k, int s) {
        int most = -4;
        int least = -4;
        int fewest = -4;
        for (int n = 1; n <= length; n++) {
            for (int odd = 0; odd <= n; odd++) {
                int over = length - n * k;
                if (over >= odd && over <= odd * s) {
                    most = n;
                    least = least < 0 ? n : least;
                    fewest = fewest < 0 ? odd : Math.min(fewest, odd);
                }
            }
        }
        String call = "fits(" + length + ", " + k + ", " + s + ", ";
        due.is(call + "0)", x.fits(length, k, s, 0), most);
        due.is(call + "1)", x.fits(length, k, s, 1), least);
        due.is(call + "2)", x.fits(length, k, s, 2), fewest);
    }
}
