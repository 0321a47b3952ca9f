/** Promises 12 to 18: ahead, rings, rank, orders, likely, begins, order. */
public final class AheadTest {
    private static final Due due = new Due();
    private static final String TWELVE =
        "patch;patch;patch;patch;patch;patch;patch;patch;patch;patch;patch;patch;";

    public static void main(String[] args) {
        noThings();
        chain();
        few();
        ringsOfThings();
        twelve();
        due.end();
    }

    private static void noThings() {
        BeastFloor x = new BeastFloor();
        due.is("ahead(0, 1)", x.ahead(0, 1), -1);
        due.is("rings(0)", x.rings(0), 0);
        due.is("rings(1)", x.rings(1), 0);
        due.is("rings(2)", x.rings(2), -1);
        due.is("rings(-1)", x.rings(-1), -1);
        due.is("rank(0, 0)", x.rank(0, 0), -1);
        due.is("orders()", x.orders(), 1);
        due.is("likely(0, 1, 0)", x.likely(0, 1, 0), -1);
        due.is("begins(0)", x.begins(0), 0);
        due.is("begins(1)", x.begins(1), 0);
        due.is("begins(2)", x.begins(2), -1);
        due.is("begins(-1)", x.begins(-1), -1);
        due.is("order(0, 0)", x.order(0, 0), -1);
    }

    private static void chain() {
        BeastFloor x = due.told("row 1 1;patch 0;patch 1;");
        due.is("ahead(0, 2)", x.ahead(0, 2), 1);
        due.is("ahead(2, 0)", x.ahead(2, 0), 0);
        due.is("ahead(1, 1)", x.ahead(1, 1), -1);
        due.is("ahead(0, 3)", x.ahead(0, 3), -1);
        due.is("ahead(-1, 0)", x.ahead(-1, 0), -1);
        due.is("orders()", x.orders(), 1);
        for (int t = 0; t < 3; t++) {
            due.is("rank(" + t + ", 0)", x.rank(t, 0), t);
            due.is("rank(" + t + ", 1)", x.rank(t, 1), t);
            due.is("order(0, " + t + ")", x.order(0, t), t);
        }
        due.is("likely(0, 2, 0)", x.likely(0, 2, 0), 1);
        due.is("likely(0, 2, 1)", x.likely(0, 2, 1), 1);
        due.is("likely(2, 0, 0)", x.likely(2, 0, 0), 0);
        due.is("likely(2, 0, 1)", x.likely(2, 0, 1), 1);
        due.is("begins(0)", x.begins(0), 1);
        due.is("begins(1)", x.begins(1), 4);
    }

    private static void few() {
        // 2 is later than 0; 1 and 3 are free: 12 ORDERS.
        BeastFloor x = due.told("row 1 1;row 1 1;patch 0;row 1 1;");
        due.is("orders()", x.orders(), 12);
        due.is("rank(0, 0)", x.rank(0, 0), 0);
        due.is("rank(0, 1)", x.rank(0, 1), 2);
        due.is("rank(2, 0)", x.rank(2, 0), 1);
        due.is("rank(2, 1)", x.rank(2, 1), 3);
        due.is("rank(1, 1)", x.rank(1, 1), 3);
        due.is("rank(4, 0)", x.rank(4, 0), -1);
        due.is("rank(0, 2)", x.rank(0, 2), -1);
        due.is("rank(-1, 0)", x.rank(-1, 0), -1);
        due.is("rank(0, -1)", x.rank(0, -1), -1);
        // 1 falls ahead of, between and behind 0 and 2 alike often.
        due.is("likely(1, 0, 0)", x.likely(1, 0, 0), 1);
        due.is("likely(1, 0, 1)", x.likely(1, 0, 1), 3);
        due.is("likely(1, 2, 0)", x.likely(1, 2, 0), 2);
        due.is("likely(1, 2, 1)", x.likely(1, 2, 1), 3);
        due.is("likely(1, 1, 0)", x.likely(1, 1, 0), -1);
        due.is("likely(1, 4, 0)", x.likely(1, 4, 0), -1);
        due.is("likely(-1, 1, 0)", x.likely(-1, 1, 0), -1);
        due.is("likely(1, 0, 2)", x.likely(1, 0, 2), -1);
        due.is("begins(0)", x.begins(0), 11);
        due.is("begins(1)", x.begins(1), 14);
        String[] all = {"0123", "0132", "0213", "0231", "0312", "0321",
            "1023", "1032", "1302", "3012", "3021", "3102"};
        for (int k = 0; k < 12; k++) {
            for (int i = 0; i < 4; i++) {
                due.is("order(" + k + ", " + i + ")", x.order(k, i), all[k].charAt(i) - '0');
            }
        }
        due.is("order(12, 0)", x.order(12, 0), -1);
        due.is("order(-1, 0)", x.order(-1, 0), -1);
        due.is("order(0, 4)", x.order(0, 4), -1);
        due.is("order(0, -1)", x.order(0, -1), -1);
        due.is("order beyond all ints", x.order(1L << 32, 0), -1);
    }

    private static void ringsOfThings() {
        // A RING of 4 with a shorter one of 3 in it; 5 is behind, 6 ahead of it.
        BeastFloor x = due.told("row 1 1;row 1 1;row 1 1;row 1 1;row 1 1;patch 0;row 1 1;"
            + "gives 0 1;gives 1 2;gives 2 3;gives 3 0;gives 2 0;gives 0 6;");
        due.is("rings(0)", x.rings(0), 15);
        due.is("rings(1)", x.rings(1), 3);
        due.is("orders()", x.orders(), -2);
        due.is("rank(5, 0)", x.rank(5, 0), -2);
        due.is("rank(7, 0)", x.rank(7, 0), -1);
        due.is("likely(4, 5, 0)", x.likely(4, 5, 0), -2);
        due.is("likely(4, 4, 0)", x.likely(4, 4, 0), -1);
        due.is("begins(1)", x.begins(1), -2);
        due.is("begins(3)", x.begins(3), -1);
        due.is("order(0, 0)", x.order(0, 0), -2);
        due.is("order(-1, 0)", x.order(-1, 0), -1);
        due.is("order(0, 7)", x.order(0, 7), -1);
        due.is("ahead(6, 5)", x.ahead(6, 5), 1);
        due.is("ahead(1, 3)", x.ahead(1, 3), 1);
        due.is("ahead(4, 5)", x.ahead(4, 5), 0);
        due.is("rings(1) of a patch", due.told("row 1 1;patch 0;gives 0 1;").rings(1), 2);
    }

    private static void twelve() {
        BeastFloor x = due.told(TWELVE);
        due.is("orders()", x.orders(), 479001600);
        for (int i = 0; i < 12; i++) {
            due.is("order(0, i)", x.order(0, i), i);
            due.is("order(last, i)", x.order(479001599, i), 11 - i);
        }
        due.is("order(479001600, 0)", x.order(479001600, 0), -1);
        due.is("likely(3, 7, 1)", x.likely(3, 7, 1), 2);
        // The ORDERS are those of the text that was told last.
        Due.tell(x, "patch;patch;");
        due.is("orders()", x.orders(), 2);
        Due.tell(x, TWELVE + "gives 0 1;gives 2 3;gives 4 5;gives 6 7;gives 8 9;gives 10 11;");
        due.is("orders()", x.orders(), 479001600 / 64);
        due.is("likely(1, 0, 0)", x.likely(1, 0, 0), 1);
        due.is("likely(0, 2, 0)", x.likely(0, 2, 0), 1);
        due.is("likely(0, 2, 1)", x.likely(0, 2, 1), 2);
        due.is("likely(0, 3, 0)", x.likely(0, 3, 0), 1);
        due.is("likely(0, 3, 1)", x.likely(0, 3, 1), 6);
    }
}
