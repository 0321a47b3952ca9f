/** Boundary cases of ahead, rings, rank, orders, likely, begins, order: promises 12 to 18. */
public final class AheadBoundsTest {
    private static final Bounds due = new Bounds();
    private static final String TWELVE = "patch;".repeat(12);
    private static final int ALL = 479001600;

    public static void main(String[] args) {
        aheadAndSoOn();
        aheadIsBad();
        aheadOfItself();
        thingsInRings();
        theFewestThingsOfARing();
        ringsIsBad();
        earliestAndLatest();
        rankIsBad();
        rankInARing();
        howManyOrders();
        ordersInARing();
        lowestTerms();
        likelyIsBad();
        likelyOfOneAndTheSame();
        likelyInARing();
        whereTheLayingBegan();
        beginsIsBad();
        beginsInARing();
        orderByThings();
        theLastOrder();
        orderBeyond();
        placesOfAnOrder();
        orderInARing();
        due.end();
    }

    private static String chain(int things) {
        StringBuilder b = new StringBuilder("patch;");
        for (int t = 1; t < things; t++) {
            b.append("patch ").append(t - 1).append(';');
        }
        return b.toString();
    }

    /** Each gives way to the next one: the last comes first. */
    private static String chainBack(int things) {
        StringBuilder b = new StringBuilder("patch;".repeat(things));
        for (int t = 1; t < things; t++) {
            b.append("gives ").append(t - 1).append(' ').append(t).append(';');
        }
        return b.toString();
    }

    // ---- ahead, rings

    private static void aheadAndSoOn() {
        due.sentence("12: Whether a is laid ahead of b (1, 0)");
        BeastFloor x = due.told(chain(12));
        for (int a = 0; a < 12; a++) {
            for (int b = 0; b < 12; b++) {
                if (a != b) {
                    due.is("ahead(" + a + ", " + b + ")", x.ahead(a, b), a < b ? 1 : 0);
                }
            }
        }
        BeastFloor back = due.told(chainBack(12));
        due.is("ahead(11, 0) of a chain back", back.ahead(11, 0), 1);
        due.is("ahead(0, 11) of a chain back", back.ahead(0, 11), 0);
        BeastFloor free = due.told(TWELVE);
        due.is("ahead(0, 11) of free ones", free.ahead(0, 11), 0);
        due.is("ahead(11, 0) of free ones", free.ahead(11, 0), 0);
        due.answers(State.RING, "ahead(0, 1) in a RING", y -> y.ahead(0, 1), 1);
        due.answers(State.RING, "ahead(1, 0) in a RING", y -> y.ahead(1, 0), 1);
        due.answers(State.RING, "ahead(1, 3) behind a RING", y -> y.ahead(1, 3), 1);
        due.answers(State.RING, "ahead(3, 1)", y -> y.ahead(3, 1), 0);
        due.answers(State.RING, "ahead(4, 3)", y -> y.ahead(4, 3), 0);
    }

    private static void aheadIsBad() {
        due.sentence("12: BAD");
        due.outside(State.NEW, "ahead(#, 1)", (x, a) -> x.ahead(a, 1), -1, 0, -1);
        due.outside(State.RICH, "ahead(#, 1)", (x, a) -> x.ahead(a, 1), -1, 0, 4);
        due.outside(State.RICH, "ahead(1, #)", (x, b) -> x.ahead(1, b), -1, 0, 4);
        due.outside(State.FULL, "ahead(#, 1)", (x, a) -> x.ahead(a, 1), -1, 0, 11);
        due.outside(State.FULL, "ahead(1, #)", (x, b) -> x.ahead(1, b), -1, 0, 11);
        due.refusedWith(State.RICH, "ahead(#, 1)", (x, a) -> x.ahead(a, 1), -1, 32, -32);
        due.is("of one THING alone", due.told("patch;").ahead(0, 1), -1);
        due.is("of two", due.told("patch;patch;").ahead(0, 1), 0);
    }

    private static void aheadOfItself() {
        due.sentence("12: BAD: also one and the same");
        for (State state : State.values()) {
            due.refusedWith(state, "ahead(#, #)", (x, t) -> x.ahead(t, t), -1, -1, 0, 4, 5, 11, 12, Integer.MIN_VALUE);
        }
    }

    private static void thingsInRings() {
        due.sentence("13: THINGS that are in RINGS (bits; what 0)");
        due.answers(State.NEW, "rings(0)", x -> x.rings(0), 0);
        due.answers(State.RICH, "rings(0)", x -> x.rings(0), 0);
        due.answers(State.RING, "rings(0): not what is behind", x -> x.rings(0), 7);
        due.is("none of 12", due.told(chain(12)).rings(0), 0);
        due.is("all of 12", due.told(chain(12) + "gives 0 11;").rings(0), 4095);
        BeastFloor two = due.told("patch;".repeat(6) + "gives 0 1;gives 1 0;gives 4 5;gives 5 4;gives 2 1;gives 4 2;");
        due.is("two RINGS, not the one between them", two.rings(0), 1 + 2 + 16 + 32);
    }

    private static void theFewestThingsOfARing() {
        due.sentence("13: a RING: the fewest THINGS one behind another by what is told, how many (1; 0: none)");
        due.answers(State.NEW, "rings(1)", x -> x.rings(1), 0);
        due.answers(State.RICH, "rings(1)", x -> x.rings(1), 0);
        due.answers(State.RING, "rings(1)", x -> x.rings(1), 3);
        due.is("two, the fewest that there can be", due.told("patch;patch 0;gives 0 1;").rings(1), 2);
        due.is("12, the most", due.told(chain(12) + "gives 0 11;").rings(1), 12);
        due.is("of the last two alone", due.told(TWELVE + "gives 10 11;gives 11 10;").rings(1), 2);
        due.is("of the last two alone (bits)", due.told(TWELVE + "gives 10 11;gives 11 10;").rings(0), 1024 + 2048);
        for (int t = 1; t < 12; t++) {
            BeastFloor x = due.told(chain(12) + "gives 0 11;gives 0 " + (t == 11 ? "10" : t) + ";");
            due.is("the shorter one", x.rings(1), t == 11 ? 11 : t + 1);
        }
    }

    private static void ringsIsBad() {
        due.sentence("13: BAD");
        for (State state : State.values()) {
            due.outside(state, "rings(#)", BeastFloor::rings, -1, 0, 1);
        }
    }

    // ---- rank, orders

    private static void earliestAndLatest() {
        due.sentence("14: RANK of a THING: EARLIEST (what 0), LATEST (1)");
        BeastFloor one = due.told("patch;");
        due.is("rank(0, 0) of one", one.rank(0, 0), 0);
        due.is("rank(0, 1) of one", one.rank(0, 1), 0);
        BeastFloor free = due.told(TWELVE);
        BeastFloor chain = due.told(chain(12));
        BeastFloor back = due.told(chainBack(12));
        for (int t = 0; t < 12; t++) {
            due.is("rank(" + t + ", 0) of free ones", free.rank(t, 0), 0);
            due.is("rank(" + t + ", 1) of free ones", free.rank(t, 1), 11);
            due.is("rank(" + t + ", 0) of a chain", chain.rank(t, 0), t);
            due.is("rank(" + t + ", 1) of a chain", chain.rank(t, 1), t);
            due.is("rank(" + t + ", 0) of a chain back", back.rank(t, 0), 11 - t);
            due.is("rank(" + t + ", 1) of a chain back", back.rank(t, 1), 11 - t);
        }
    }

    private static void rankIsBad() {
        due.sentence("14: BAD");
        due.outside(State.NEW, "rank(#, 0)", (x, t) -> x.rank(t, 0), -1, 0, -1);
        due.outside(State.RICH, "rank(#, 0)", (x, t) -> x.rank(t, 0), -1, 0, 4);
        due.outside(State.RICH, "rank(#, 1)", (x, t) -> x.rank(t, 1), -1, 0, 4);
        due.outside(State.FULL, "rank(#, 1)", (x, t) -> x.rank(t, 1), -1, 0, 11);
        due.outside(State.RICH, "rank(0, #)", (x, what) -> x.rank(0, what), -1, 0, 1);
    }

    private static void rankInARing() {
        due.sentence("14: BAD; STATE: a RING, the first that fits");
        due.refusedWith(State.RING, "rank(#, 0)", (x, t) -> x.rank(t, 0), -2, 0, 3, 4);
        due.refusedWith(State.RING, "rank(#, 1)", (x, t) -> x.rank(t, 1), -2, 0, 3, 4);
        due.outside(State.RING, "rank(#, 0)", (x, t) -> x.rank(t, 0), -1, 0, 4);
        due.outside(State.RING, "rank(0, #)", (x, what) -> x.rank(0, what), -1, 0, 1);
    }

    private static void howManyOrders() {
        due.sentence("15: How many ORDERS .. (No THINGS: 1.)");
        due.answers(State.NEW, "orders()", BeastFloor::orders, 1);
        long factorial = 1;
        for (int n = 1; n <= 12; n++) {
            factorial *= n;
            due.is("orders() of " + n + " free ones", due.told("patch;".repeat(n)).orders(), factorial);
            due.is("orders() of a chain of " + n, due.told(chain(n)).orders(), 1);
        }
        due.is("one ahead of 11", due.told(TWELVE + "gives 1 0;gives 2 0;gives 3 0;gives 4 0;gives 5 0;gives 6 0;"
            + "gives 7 0;gives 8 0;gives 9 0;gives 10 0;gives 11 0;").orders(), ALL / 12);
        due.is("told by a patch and by gives", due.told("patch;patch 0;gives 1 0;").orders(), 1);
    }

    private static void ordersInARing() {
        due.sentence("15: STATE: a RING");
        due.refused(State.RING, "orders()", BeastFloor::orders, -2);
        due.is("of 12 THINGS two", due.told(TWELVE + "gives 10 11;gives 11 10;").orders(), -2);
    }

    // ---- likely

    private static void lowestTerms() {
        due.sentence("16: 0 the numerator, 1 the denominator (Fractions are in lowest terms .. 0 is 0 by 1)");
        BeastFloor x = due.told(TWELVE + "gives 11 0;");
        due.is("sure: numerator", x.likely(0, 11, 0), 1);
        due.is("sure: denominator", x.likely(0, 11, 1), 1);
        due.is("never: numerator", x.likely(11, 0, 0), 0);
        due.is("never: denominator", x.likely(11, 0, 1), 1);
        due.is("even: numerator", x.likely(4, 5, 0), 1);
        due.is("even: denominator", x.likely(5, 4, 1), 2);
        due.is("0 ahead of a free one: numerator", x.likely(0, 1, 0), 2);
        due.is("0 ahead of a free one: denominator", x.likely(0, 1, 1), 3);
        BeastFloor two = due.told("patch;patch;");
        due.is("two: numerator", two.likely(1, 0, 0), 1);
        due.is("two: denominator", two.likely(1, 0, 1), 2);
        // A chain of 11 and a free one: it falls into any of 12 gaps alike, a denominator of 12.
        BeastFloor gaps = due.told(chain(11) + "patch;");
        for (int t = 0; t < 11; t++) {
            int top = t + 1;
            int shared = top % 6 == 0 ? 6 : top % 4 == 0 ? 4 : top % 3 == 0 ? 3 : top % 2 == 0 ? 2 : 1;
            due.is("likely(11, " + t + ", 0)", gaps.likely(11, t, 0), top / shared);
            due.is("likely(11, " + t + ", 1)", gaps.likely(11, t, 1), 12 / shared);
        }
    }

    private static void likelyIsBad() {
        due.sentence("16: BAD");
        due.outside(State.NEW, "likely(#, 1, 0)", (x, a) -> x.likely(a, 1, 0), -1, 0, -1);
        due.outside(State.RICH, "likely(#, 1, 0)", (x, a) -> x.likely(a, 1, 0), -1, 0, 4);
        due.outside(State.RICH, "likely(1, #, 1)", (x, b) -> x.likely(1, b, 1), -1, 0, 4);
        due.outside(State.FULL, "likely(#, 1, 0)", (x, a) -> x.likely(a, 1, 0), -1, 0, 11);
        due.outside(State.FULL, "likely(1, #, 0)", (x, b) -> x.likely(1, b, 0), -1, 0, 11);
        due.outside(State.RICH, "likely(0, 1, #)", (x, what) -> x.likely(0, 1, what), -1, 0, 1);
    }

    private static void likelyOfOneAndTheSame() {
        due.sentence("16: BAD: also one and the same");
        due.refusedWith(State.RICH, "likely(#, #, 0)", (x, t) -> x.likely(t, t, 0), -1, 0, 4);
        due.refusedWith(State.RICH, "likely(#, #, 1)", (x, t) -> x.likely(t, t, 1), -1, 0, 4);
    }

    private static void likelyInARing() {
        due.sentence("16: STATE: a RING (BAD first)");
        due.refused(State.RING, "likely(0, 1, 0)", x -> x.likely(0, 1, 0), -2);
        due.refused(State.RING, "likely(3, 4, 1)", x -> x.likely(3, 4, 1), -2);
        due.refused(State.RING, "likely(3, 3, 0)", x -> x.likely(3, 3, 0), -1);
        due.outside(State.RING, "likely(#, 1, 0)", (x, a) -> x.likely(a, 1, 0), -1, 0, 4);
        due.outside(State.RING, "likely(1, #, 0)", (x, b) -> x.likely(1, b, 0), -1, 0, 4);
        due.outside(State.RING, "likely(0, 1, #)", (x, what) -> x.likely(0, 1, what), -1, 0, 1);
    }

    // ---- begins

    private static void whereTheLayingBegan() {
        due.sentence("17: THINGS with which the laying may have begun (bits; what 0), ended (1)");
        due.answers(State.NEW, "begins(0)", x -> x.begins(0), 0);
        due.answers(State.NEW, "begins(1)", x -> x.begins(1), 0);
        due.is("begins(0) of one", due.told("patch;").begins(0), 1);
        due.is("begins(1) of one", due.told("patch;").begins(1), 1);
        due.is("begins(0) of 12 free ones", due.told(TWELVE).begins(0), 4095);
        due.is("begins(1) of 12 free ones", due.told(TWELVE).begins(1), 4095);
        due.is("begins(0) of a chain", due.told(chain(12)).begins(0), 1);
        due.is("begins(1) of a chain", due.told(chain(12)).begins(1), 2048);
        due.is("begins(0) of a chain back", due.told(chainBack(12)).begins(0), 2048);
        due.is("begins(1) of a chain back", due.told(chainBack(12)).begins(1), 1);
    }

    private static void beginsIsBad() {
        due.sentence("17: BAD");
        for (State state : State.values()) {
            due.outside(state, "begins(#)", BeastFloor::begins, -1, 0, 1);
        }
    }

    private static void beginsInARing() {
        due.sentence("17: STATE: a RING");
        due.refusedWith(State.RING, "begins(#)", BeastFloor::begins, -2, 0, 1);
    }

    // ---- order

    private static void orderByThings() {
        due.sentence("18: ORDER number k (by THINGS, place by place; k from 0)");
        BeastFloor x = due.told("patch;patch;patch;");
        String[] all = {"012", "021", "102", "120", "201", "210"};
        for (int k = 0; k < 6; k++) {
            for (int i = 0; i < 3; i++) {
                due.is("order(" + k + ", " + i + ")", x.order(k, i), all[k].charAt(i) - '0');
            }
        }
        due.is("order(0, 0) of one", due.told("patch;").order(0, 0), 0);
        BeastFloor back = due.told(chainBack(12));
        for (int i = 0; i < 12; i++) {
            due.is("order(0, " + i + ") of a chain back", back.order(0, i), 11 - i);
        }
    }

    private static void theLastOrder() {
        due.sentence("18: ORDER number k, the last of the most that there can be");
        BeastFloor x = due.told(TWELVE);
        for (int i = 0; i < 12; i++) {
            due.is("order(0, " + i + ")", x.order(0, i), i);
            due.is("order(1, " + i + ")", x.order(1, i), i < 10 ? i : 21 - i);
            due.is("order(last, " + i + ")", x.order(ALL - 1, i), 11 - i);
            due.is("order(last but one, " + i + ")", x.order(ALL - 2, i), i < 10 ? 11 - i : i - 10);
        }
        // The first with THING 1 ahead of all, and the one just before it.
        due.is("order(11! - 1, 0)", x.order(ALL / 12 - 1, 0), 0);
        due.is("order(11!, 0)", x.order(ALL / 12, 0), 1);
        due.is("order(11!, 1)", x.order(ALL / 12, 1), 0);
    }

    private static void orderBeyond() {
        due.sentence("18: BAD: also k beyond");
        long[] far = {-1, Long.MIN_VALUE, Long.MAX_VALUE, 1L << 32, (1L << 32) + 1, -(1L << 32), 1L << 63, ALL};
        for (long k : far) {
            due.refused(State.RICH, "order(" + k + ", 0)", x -> x.order(k, 0), -1);
            due.refused(State.NEW, "order(" + k + ", 0)", x -> x.order(k, 0), -1);
        }
        long orders = State.RICH.make().orders();
        due.holds("the last is there", State.RICH.make().order(orders - 1, 0) >= 0);
        due.refused(State.RICH, "order(" + orders + ", 0)", x -> x.order(orders, 0), -1);
        due.refused(State.RICH, "order(" + orders + ", 4)", x -> x.order(orders, 4), -1);
        due.is("order(12!, 0)", due.told(TWELVE).order(ALL, 0), -1);
        due.is("order(12!, 11)", due.told(TWELVE).order(ALL, 11), -1);
        due.is("order(1, 0) of a chain", due.told(chain(12)).order(1, 0), -1);
    }

    private static void placesOfAnOrder() {
        due.sentence("18: BAD: also .. i");
        due.outside(State.NEW, "order(0, #)", (x, i) -> x.order(0, i), -1, 0, -1);
        due.refused(State.NEW, "order(0, 0)", x -> x.order(0, 0), -1);
        due.outside(State.RICH, "order(0, #)", (x, i) -> x.order(0, i), -1, 0, 4);
        due.outside(State.FULL, "order(0, #)", (x, i) -> x.order(0, i), -1, 0, 11);
        due.holds("the last place is there", State.FULL.make().order(0, 11) >= 0);
    }

    private static void orderInARing() {
        due.sentence("18: STATE: a RING (BAD first)");
        due.refused(State.RING, "order(0, 0)", x -> x.order(0, 0), -2);
        due.refused(State.RING, "order(0, 4)", x -> x.order(0, 4), -2);
        due.refused(State.RING, "order(-1, 0)", x -> x.order(-1, 0), -1);
        due.refused(State.RING, "order(least, 0)", x -> x.order(Long.MIN_VALUE, 0), -1);
        due.outside(State.RING, "order(0, #)", (x, i) -> x.order(0, i), -1, 0, 4);
        // There is no ORDER at all, so that none is beyond the others: STATE, as NOTES.md says.
        due.refused(State.RING, "order(1, 0)", x -> x.order(1, 0), -2);
        due.refused(State.RING, "order(greatest, 0)", x -> x.order(Long.MAX_VALUE, 0), -2);
    }
}
