/** Boundary cases of knot, wipe, slips, knots, fits: promises 22 to 26. */
public final class BorderBoundsTest {
    private static final Bounds due = new Bounds();

    public static void main(String[] args) {
        placesOfKnots();
        aboveTheLatestOne();
        twentyFourAtMost();
        badAheadOfFull();
        wiping();
        howManySlips();
        theFirstSlip();
        byHowMuch();
        slipsIsBad();
        slipsOfFewerThanTwo();
        badAheadOfState();
        theBestKnot();
        ofSeveralTheLeast();
        knotsOfFewerThanTwo();
        howManyFit();
        lengthsThatFit();
        theFewestThatAreNotK();
        fitsIsBad();
        theyDoNotFit();
        badAheadOfNone();
        due.end();
    }

    private static BeastFloor knots(int... places) {
        BeastFloor x = new BeastFloor();
        for (int i = 0; i < places.length; i++) {
            due.is("knot(" + places[i] + ")", x.knot(places[i]), i + 1);
        }
        return x;
    }

    // ---- knot, wipe

    private static void placesOfKnots() {
        due.sentence("22: A knot begins at a place (0 to 999 ..)");
        knots(0);
        knots(999);
        knots(0, 999);
        due.outside(State.NEW, "knot(#)", BeastFloor::knot, -1, 0, 999);
        due.outside(State.RICH, "knot(#)", BeastFloor::knot, -1, 0, 999);
        due.outside(State.FULL, "knot(#)", BeastFloor::knot, -1, 0, 999);
    }

    private static void aboveTheLatestOne() {
        due.sentence("22: (.. above the latest one)");
        due.refusedWith(State.RICH, "knot(#)", BeastFloor::knot, -1, 0, 7, 14, 15, 204, 205);
        due.answers(State.RICH, "knot(206)", x -> x.knot(206), 4);
        BeastFloor x = knots(999);
        due.is("knot(999) again", x.knot(999), -1);
        due.is("count(1)", x.count(1), 1);
        BeastFloor y = knots(0);
        due.is("knot(0) again", y.knot(0), -1);
        due.is("knot(1)", y.knot(1), 2);
    }

    private static void twentyFourAtMost() {
        due.sentence("22: how many there are (24 at most) .. FULL");
        BeastFloor x = new BeastFloor();
        for (int i = 1; i <= 24; i++) {
            due.is("knot, the " + i + "th", x.knot(975 + i), i);
        }
        due.refusedWith(State.FULL, "knot(#)", BeastFloor::knot, -3, 231, 240, 999);
        due.is("wipe() of 24", x.wipe(), 24);
        due.is("knot anew", x.knot(0), 1);
    }

    private static void badAheadOfFull() {
        due.sentence("22: BAD; FULL, the first that fits");
        due.refusedWith(State.FULL, "knot(#)", BeastFloor::knot, -1, -1, 0, 229, 230, 1000);
    }

    private static void wiping() {
        due.sentence("23: The BORDER is empty: how many knots it had");
        due.answers(State.NEW, "wipe()", BeastFloor::wipe, 0);
        due.answers(State.RICH, "wipe()", BeastFloor::wipe, 3);
        due.answers(State.FULL, "wipe()", BeastFloor::wipe, 24);
        BeastFloor x = State.RICH.make();
        x.wipe();
        due.is("count(1)", x.count(1), 0);
        due.is("wipe() again", x.wipe(), 0);
        due.is("knots()", x.knots(), -2);
        due.is("knot(0): below what was the latest one", x.knot(0), 1);
        due.holds("nothing else changes", Due.floor(x).equals(Due.floor(State.RICH.make())));
    }

    // ---- slips, knots

    private static void howManySlips() {
        due.sentence("24: With knots of k: how many times it SLIPS (what 0)");
        BeastFloor one = knots(10, 11);
        due.is("slips(1, 0)", one.slips(1, 0), 0);
        due.is("slips(2, 0)", one.slips(2, 0), 1);
        BeastFloor far = knots(0, 99, 198);
        due.is("slips(99, 0)", far.slips(99, 0), 0);
        due.is("slips(98, 0)", far.slips(98, 0), 2);
        due.answers(State.FULL, "slips(10, 0)", x -> x.slips(10, 0), 0);
        due.answers(State.FULL, "slips(9, 0): each time", x -> x.slips(9, 0), 23);
        due.answers(State.FULL, "slips(11, 0): each time", x -> x.slips(11, 0), 23);
        BeastFloor last = knots(0, 5, 10, 16);
        due.is("only the last one", last.slips(5, 0), 1);
    }

    private static void theFirstSlip() {
        due.sentence("24: the first time (1: behind which knot; NONE)");
        due.is("the first", knots(0, 6, 11).slips(5, 1), 0);
        due.is("the second", knots(0, 5, 11).slips(5, 1), 1);
        due.answers(State.FULL, "none", x -> x.slips(10, 1), -4);
        BeastFloor x = new BeastFloor();
        for (int i = 0; i < 23; i++) {
            x.knot(3 * i);
        }
        x.knot(70);
        due.is("the last of 24", x.slips(3, 1), 22);
        due.is("none of two", knots(0, 99).slips(99, 1), -4);
    }

    private static void byHowMuch() {
        due.sentence("24: by how much in all (2: the last place less the first one, less k times (the knots less 1))");
        due.is("the most", knots(0, 999).slips(1, 2), 998);
        due.is("the least of two", knots(0, 1).slips(99, 2), -98);
        BeastFloor x = new BeastFloor();
        for (int i = 0; i < 24; i++) {
            x.knot(i);
        }
        due.is("the least of 24", x.slips(99, 2), 23 - 99 * 23);
        due.is("nothing", x.slips(1, 2), 0);
        due.is("nothing, though it slips twice", knots(0, 4, 10).slips(5, 2), 0);
        due.is("from the first place, not from 0", knots(100, 110).slips(5, 2), 5);
    }

    private static void slipsIsBad() {
        due.sentence("24: BAD -1000000");
        for (int what = 0; what < 3; what++) {
            int of = what;
            due.outside(State.RICH, "slips(#, " + of + ")", (x, k) -> x.slips(k, of), -1000000, 1, 99);
        }
        due.outside(State.RICH, "slips(7, #)", (x, what) -> x.slips(7, what), -1000000, 0, 2);
        due.outside(State.FULL, "slips(10, #)", (x, what) -> x.slips(10, what), -1000000, 0, 2);
    }

    private static void slipsOfFewerThanTwo() {
        due.sentence("24: STATE -1000002: fewer than two knots");
        due.refusedWith(State.NEW, "slips(1, #)", (x, what) -> x.slips(1, what), -1000002, 0, 1, 2);
        due.refusedWith(State.RING, "slips(99, #)", (x, what) -> x.slips(99, what), -1000002, 0, 1, 2);
        due.is("two are enough", knots(0, 1).slips(1, 0), 0);
    }

    private static void badAheadOfState() {
        due.sentence("24: BAD .. STATE, the first that fits");
        due.outside(State.NEW, "slips(#, 0)", (x, k) -> x.slips(k, 0), -1000000, 1, 99);
        due.outside(State.RING, "slips(1, #)", (x, what) -> x.slips(1, what), -1000000, 0, 2);
    }

    private static void theBestKnot() {
        due.sentence("25: The k (1 to 99) by which it SLIPS the fewest times");
        due.is("the least", knots(0, 1).knots(), 1);
        due.is("the greatest", knots(0, 99).knots(), 99);
        due.is("beyond: all slip alike", knots(0, 100).knots(), 1);
        due.is("the most often met", knots(0, 98, 197, 296).knots(), 99);
        due.answers(State.FULL, "knots()", BeastFloor::knots, 10);
        due.answers(State.RICH, "knots()", BeastFloor::knots, 7);
    }

    private static void ofSeveralTheLeast() {
        due.sentence("25: of several the least");
        due.is("9 and 8", knots(0, 9, 17).knots(), 8);
        due.is("99 and 98", knots(0, 99, 197).knots(), 98);
        due.is("1 twice, 2 once", knots(0, 1, 2, 4).knots(), 1);
        due.is("1 and 2", knots(0, 2, 3).knots(), 1);
        due.is("100 and 2: only 2 can be", knots(0, 100, 200, 202).knots(), 2);
    }

    private static void knotsOfFewerThanTwo() {
        due.sentence("25: STATE (-2): fewer than two knots");
        due.refused(State.NEW, "knots()", BeastFloor::knots, -2);
        due.refused(State.RING, "knots()", BeastFloor::knots, -2);
        due.is("two are enough", knots(5, 7).knots(), 2);
    }

    // ---- fits

    private static void fits(int length, int k, int s, int most, int least, int odd) {
        BeastFloor x = new BeastFloor();
        String call = "fits(" + length + ", " + k + ", " + s + ", ";
        due.is(call + "0)", x.fits(length, k, s, 0), most);
        due.is(call + "1)", x.fits(length, k, s, 1), least);
        due.is(call + "2)", x.fits(length, k, s, 2), odd);
    }

    private static void howManyFit() {
        due.sentence("26: how many at most (what 0), at least (1)");
        fits(1, 1, 0, 1, 1, 0);
        fits(1, 1, 9, 1, 1, 0);
        fits(999, 1, 0, 999, 999, 0);
        fits(999, 1, 9, 999, 100, 0);
        fits(99, 99, 0, 1, 1, 0);
        fits(108, 99, 9, 1, 1, 1);
        fits(990, 99, 9, 10, 10, 0);
        fits(999, 99, 9, 10, 10, 1);
        fits(30, 5, 1, 6, 5, 0);
        fits(31, 5, 1, 6, 6, 1);
    }

    private static void lengthsThatFit() {
        due.sentence("FITS: k long each, or more by up to s (0 to 9)");
        fits(10, 10, 1, 1, 1, 0);
        fits(11, 10, 1, 1, 1, 1);
        fits(12, 10, 1, -4, -4, -4);
        fits(19, 10, 1, -4, -4, -4);
        fits(20, 10, 1, 2, 2, 0);
        fits(22, 10, 1, 2, 2, 2);
        fits(23, 10, 1, -4, -4, -4);
        fits(19, 10, 9, 1, 1, 1);
        fits(20, 10, 9, 2, 2, 0);
        fits(9, 10, 9, -4, -4, -4);
    }

    private static void theFewestThatAreNotK() {
        due.sentence("26: the fewest that are not k long (2)");
        fits(20, 10, 9, 2, 2, 0);
        fits(21, 10, 9, 2, 2, 1);
        fits(29, 10, 9, 2, 2, 1);
        fits(30, 10, 9, 3, 2, 0);
        fits(38, 10, 9, 3, 2, 1);
        fits(39, 10, 9, 3, 3, 1);
        fits(57, 10, 9, 5, 3, 1);
        fits(26, 10, 3, 2, 2, 2);
        fits(23, 10, 3, 2, 2, 1);
        fits(24, 10, 3, 2, 2, 2);
    }

    private static void fitsIsBad() {
        due.sentence("26: BAD (LENGTH 1 to 999, k 1 to 99, s 0 to 9, what)");
        due.outside(State.RICH, "fits(#, 1, 9, 0)", (x, length) -> x.fits(length, 1, 9, 0), -1, 1, 999);
        due.outside(State.RICH, "fits(99, #, 9, 0)", (x, k) -> x.fits(99, k, 9, 0), -1, 1, 99);
        due.outside(State.RICH, "fits(99, 1, #, 0)", (x, s) -> x.fits(99, 1, s, 0), -1, 0, 9);
        due.outside(State.RICH, "fits(99, 1, 0, #)", (x, what) -> x.fits(99, 1, 0, what), -1, 0, 2);
        for (int what = 1; what < 3; what++) {
            int of = what;
            due.outside(State.NEW, "fits(#, 1, 9, " + of + ")", (x, length) -> x.fits(length, 1, 9, of), -1, 1, 999);
            due.outside(State.NEW, "fits(99, #, 9, " + of + ")", (x, k) -> x.fits(99, k, 9, of), -1, 1, 99);
            due.outside(State.NEW, "fits(99, 1, #, " + of + ")", (x, s) -> x.fits(99, 1, s, of), -1, 0, 9);
        }
        // k and s together are not 0, whatever they are.
        due.refused(State.NEW, "fits(10, 9, -9, 1)", x -> x.fits(10, 9, -9, 1), -1);
    }

    private static void theyDoNotFit() {
        due.sentence("26: NONE: they do not fit");
        for (int what = 0; what < 3; what++) {
            int of = what;
            due.refused(State.RICH, "fits(1, 2, 9, " + of + ")", x -> x.fits(1, 2, 9, of), -4);
            due.refused(State.RICH, "fits(98, 99, 9, " + of + ")", x -> x.fits(98, 99, 9, of), -4);
            due.refused(State.RICH, "fits(109, 99, 9, " + of + ")", x -> x.fits(109, 99, 9, of), -4);
            due.refused(State.RICH, "fits(999, 2, 0, " + of + ")", x -> x.fits(999, 2, 0, of), -4);
            due.refused(State.RICH, "fits(999, 98, 1, " + of + ")", x -> x.fits(999, 98, 1, of), -4);
        }
    }

    private static void badAheadOfNone() {
        due.sentence("26: BAD; NONE, the first that fits");
        due.refusedWith(State.NEW, "fits(1, 2, 9, #)", (x, what) -> x.fits(1, 2, 9, what), -1, -1, 3);
        due.refusedWith(State.NEW, "fits(1, 2, #, 0)", (x, s) -> x.fits(1, 2, s, 0), -1, -1, 10);
    }
}
