/** Boundary cases of told, thing, pattern: promises 6 to 8. */
public final class ToldBoundsTest {
    private static final Bounds due = new Bounds();

    public static void main(String[] args) {
        toldThings();
        toldPatterns();
        toldApart();
        toldPrices();
        toldDays();
        toldIsBad();
        thingsThatThereAre();
        thingsThatThereAreNot();
        whatOfAThing();
        aPatchHasNoCubes();
        laterThan();
        aheadOf();
        cellsOfAPattern();
        nothingIsTold();
        patternIsBad();
        waysOfAPattern();
        due.end();
    }

    // ---- told

    private static void toldThings() {
        due.sentence("6: 0 THINGS");
        due.is("none", due.told("").told(0), 0);
        due.is("one", due.told("patch;").told(0), 1);
        due.is("12", due.told("row 1 1;patch;".repeat(6)).told(0), 12);
    }

    private static void toldPatterns() {
        due.sentence("6: 1 PATTERNS");
        String book = "book aaaa xxxx ffff aaaa;";
        for (int n = 0; n <= 4; n++) {
            due.is(n + " of them", due.told(book.repeat(n)).told(1), n);
        }
    }

    private static void toldApart() {
        due.sentence("6: 2 apart");
        due.is("at first", due.told("").told(2), 10);
        due.is("the least", due.told("apart 0;").told(2), 0);
        due.is("the greatest", due.told("apart 99;").told(2), 99);
    }

    private static void toldPrices() {
        due.sentence("6: 10 and c: PRICE of a COLOUR");
        BeastFloor x = due.told("quarry a 0 11;quarry b 2 12;quarry c 3 13;quarry d 4 14;quarry e 5 15;quarry f 99 16;");
        int[] want = {0, 2, 3, 4, 5, 99};
        for (int c = 0; c < 6; c++) {
            due.is("told(" + (10 + c) + ")", x.told(10 + c), want[c]);
        }
    }

    private static void toldDays() {
        due.sentence("6: 20 and c: how many a day");
        BeastFloor x = due.told("quarry a 1 1;quarry b 2 12;quarry c 3 13;quarry d 4 14;quarry e 5 15;quarry f 6 99;");
        int[] want = {1, 12, 13, 14, 15, 99};
        for (int c = 0; c < 6; c++) {
            due.is("told(" + (20 + c) + ")", x.told(20 + c), want[c]);
        }
    }

    private static void toldIsBad() {
        due.sentence("6: BAD");
        due.outside(State.RICH, "told(#)", BeastFloor::told, -1, 0, 2);
        due.outside(State.RICH, "told(#)", BeastFloor::told, -1, 10, 15);
        due.outside(State.RICH, "told(#)", BeastFloor::told, -1, 20, 25);
        due.refusedWith(State.RICH, "told(#)", BeastFloor::told, -1, Integer.MIN_VALUE + 10, Integer.MIN_VALUE + 20, -10, -20);
    }

    // ---- thing

    private static void thingsThatThereAre() {
        due.sentence("7: Of a THING: 0 CUBES .. 1 length");
        BeastFloor x = due.told("row 1 999;" + "patch;".repeat(10) + "row 99 1;");
        due.is("thing(0, 0)", x.thing(0, 0), 1);
        due.is("thing(0, 1)", x.thing(0, 1), 999);
        due.is("thing(11, 0)", x.thing(11, 0), 99);
        due.is("thing(11, 1)", x.thing(11, 1), 1);
    }

    private static void thingsThatThereAreNot() {
        due.sentence("7: BAD (there is no such THING)");
        for (int what = 0; what < 4; what++) {
            int of = what;
            due.outside(State.NEW, "thing(#, " + of + ")", (x, t) -> x.thing(t, of), -1, 0, -1);
            due.outside(State.RICH, "thing(#, " + of + ")", (x, t) -> x.thing(t, of), -1, 0, 4);
            due.outside(State.FULL, "thing(#, " + of + ")", (x, t) -> x.thing(t, of), -1, 0, 11);
        }
        due.refusedWith(State.NEW, "thing(#, 0)", (x, t) -> x.thing(t, 0), -1, 0, 1);
        due.refusedWith(State.RICH, "thing(#, 3)", (x, t) -> x.thing(t, 3), -1, 32, -32, 11, 12);
    }

    private static void whatOfAThing() {
        due.sentence("7: BAD (what)");
        due.outside(State.RICH, "thing(0, #)", (x, what) -> x.thing(0, what), -1, 0, 3);
        due.outside(State.FULL, "thing(11, #)", (x, what) -> x.thing(11, what), -1, 0, 3);
    }

    private static void aPatchHasNoCubes() {
        due.sentence("7: 0 CUBES (0: a PATCH), 1 length (0)");
        due.answers(State.RICH, "thing(2, 0)", x -> x.thing(2, 0), 0);
        due.answers(State.RICH, "thing(2, 1)", x -> x.thing(2, 1), 0);
        due.answers(State.RICH, "thing(3, 0)", x -> x.thing(3, 0), 2);
        due.answers(State.RICH, "thing(3, 1)", x -> x.thing(3, 1), 3);
    }

    private static void laterThan() {
        due.sentence("7: 2 those it is told to be later than (bits)");
        due.is("none", due.told("patch;").thing(0, 2), 0);
        BeastFloor x = due.told("patch;".repeat(11) + "patch 0 1 2 3 4 5 6 7 8 9 10;gives 0 11;gives 0 1;");
        due.is("thing(11, 2): all the others", x.thing(11, 2), 2047);
        due.is("thing(0, 2): not what is ahead of these", x.thing(0, 2), 2050);
        due.is("by a patch and by gives", due.told("patch;patch;patch 0;gives 2 1;gives 2 0;").thing(2, 2), 3);
    }

    private static void aheadOf() {
        due.sentence("7: 3 all that are AHEAD of it (bits)");
        StringBuilder chain = new StringBuilder("patch;");
        for (int t = 1; t < 12; t++) {
            chain.append("patch ").append(t - 1).append(';');
        }
        BeastFloor x = due.told(chain.toString());
        for (int t = 0; t < 12; t++) {
            due.is("thing(" + t + ", 3) of a chain", x.thing(t, 3), (1 << t) - 1);
        }
        BeastFloor ring = due.told(chain + "gives 0 11;");
        for (int t = 0; t < 12; t++) {
            due.is("thing(" + t + ", 3) of a RING of all: itself, too", ring.thing(t, 3), 4095);
        }
        // The chain told from its end: each gives way to the one above it.
        StringBuilder back = new StringBuilder("patch;".repeat(12));
        for (int t = 0; t < 11; t++) {
            back.append("gives ").append(t).append(' ').append(t + 1).append(';');
        }
        BeastFloor y = due.told(back.toString());
        for (int t = 0; t < 12; t++) {
            due.is("thing(" + t + ", 3) of a chain back", y.thing(t, 3), 4095 & ~((2 << t) - 1));
        }
    }

    // ---- pattern

    private static void cellsOfAPattern() {
        due.sentence("8: COLOUR of a cell (0 to 15) of a PATTERN");
        due.answers(State.RICH, "pattern(0, 0, 0)", x -> x.pattern(0, 0, 0), 0);
        due.answers(State.RICH, "pattern(0, 0, 15)", x -> x.pattern(0, 0, 15), 1);
        due.answers(State.FULL, "pattern(3, 0, 15)", x -> x.pattern(3, 0, 15), 3);
        due.outside(State.RICH, "pattern(0, 0, #)", (x, cell) -> x.pattern(0, 0, cell), -1, 0, 15);
        due.outside(State.FULL, "pattern(3, 7, #)", (x, cell) -> x.pattern(3, 7, cell), -1, 0, 15);
    }

    private static void nothingIsTold() {
        due.sentence("8: NONE: nothing is told");
        BeastFloor x = due.told("book xbbb bbbb bbbb bbbx;book xxxx xxxx xxxx xxxx;");
        for (int cell = 0; cell < 16; cell++) {
            due.is("pattern(0, 0, " + cell + ")", x.pattern(0, 0, cell), cell % 15 == 0 ? -4 : 1);
            due.is("pattern(1, 0, " + cell + ")", x.pattern(1, 0, cell), -4);
        }
    }

    private static void patternIsBad() {
        due.sentence("8: BAD (there is no such PATTERN; a WAY)");
        due.outside(State.NEW, "pattern(#, 0, 0)", (x, p) -> x.pattern(p, 0, 0), -1, 0, -1);
        due.refused(State.NEW, "pattern(0, 0, 0)", x -> x.pattern(0, 0, 0), -1);
        due.outside(State.RICH, "pattern(#, 0, 0)", (x, p) -> x.pattern(p, 0, 0), -1, 0, 1);
        due.outside(State.FULL, "pattern(#, 0, 0)", (x, p) -> x.pattern(p, 0, 0), -1, 0, 3);
        due.outside(State.RICH, "pattern(0, #, 0)", (x, way) -> x.pattern(0, way, 0), -1, 0, 7);
        // BAD, not NONE: nothing is told of the cell, but there is no such WAY.
        due.refusedWith(State.RICH, "pattern(1, #, 15)", (x, way) -> x.pattern(1, way, 15), -1, -1, 8);
    }

    private static void waysOfAPattern() {
        due.sentence("8: in a WAY (0 to 3: turned so many quarters to the right; 4 to 7: mirrored left to right first ..)");
        BeastFloor x = due.told("book abxx xxxx xxxx xxxx;");
        // Where its corner a and the b beside it come to.
        int[] a = {0, 3, 15, 12, 3, 15, 12, 0};
        int[] b = {1, 7, 14, 8, 2, 11, 13, 4};
        for (int way = 0; way < 8; way++) {
            for (int cell = 0; cell < 16; cell++) {
                int want = cell == a[way] ? 0 : cell == b[way] ? 1 : -4;
                due.is("pattern(0, " + way + ", " + cell + ")", x.pattern(0, way, cell), want);
            }
        }
    }
}
