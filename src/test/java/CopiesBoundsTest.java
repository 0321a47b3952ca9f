/** Boundary cases of copy, best, copies: promises 27 to 29. */
public final class CopiesBoundsTest {
    private static final Bounds due = new Bounds();

    public static void main(String[] args) {
        inHowManyItAgrees();
        inHowManyItClashes();
        whatItWouldFill();
        nothingIsTold();
        twiceAsLarge();
        copyIsBad();
        copyThatCanNotBeThere();
        bestOfNone();
        oneAtLeast();
        withoutClashes();
        theMostCells();
        theFirstPattern();
        theFirstScale();
        theFirstWay();
        theFirstCell();
        bestIsBad();
        allCopies();
        agreeInNOrMore();
        noClash();
        copiesIsBad();
        due.end();
    }

    private static BeastFloor painted(String text, int colour) {
        BeastFloor x = due.told(text);
        for (int cell = 0; cell < 64; cell++) {
            x.put(cell, colour);
        }
        return x;
    }

    // ---- copy

    private static void inHowManyItAgrees() {
        due.sentence("27: in how many CELLS it AGREES (what 0)");
        BeastFloor none = due.told("book aaaa aaaa aaaa aaaa;");
        due.is("of LOST ones", none.copy(0, 0, 1, 0, 0), 0);
        none.put(0, 0);
        due.is("the first", none.copy(0, 0, 1, 0, 0), 1);
        none.put(0, -1);
        none.put(27, 0);
        due.is("the last of 16", none.copy(0, 0, 1, 0, 0), 1);
        none.put(27, -1);
        none.put(28, 0);
        none.put(35, 0);
        due.is("those beside it are none of it", none.copy(0, 0, 1, 0, 0), 0);
        BeastFloor all = painted("book aaaa aaaa aaaa aaaa;", 0);
        due.is("all of 16", all.copy(0, 7, 1, 36, 0), 16);
        due.is("all of 64", all.copy(0, 7, 2, 0, 0), 64);
    }

    private static void inHowManyItClashes() {
        due.sentence("27: CLASHES (1) .. in those that have another one (not LOST ones ..)");
        BeastFloor x = due.told("book aaaa aaaa aaaa aaaa;");
        due.is("of LOST ones", x.copy(0, 0, 1, 0, 1), 0);
        x.put(27, 5);
        due.is("the last of 16", x.copy(0, 0, 1, 0, 1), 1);
        BeastFloor same = painted("book aaaa aaaa aaaa aaaa;", 0);
        due.is("of the same", same.copy(0, 0, 1, 0, 1), 0);
        BeastFloor other = painted("book aaaa aaaa aaaa aaaa;", 1);
        due.is("all of 16", other.copy(0, 0, 1, 0, 1), 16);
        due.is("all of 64", other.copy(0, 0, 2, 0, 1), 64);
    }

    private static void whatItWouldFill() {
        due.sentence("27: LOST CELLS that it would fill (2)");
        BeastFloor x = due.told("book aaaa aaaa aaaa aaaa;");
        due.is("all of 16", x.copy(0, 0, 1, 36, 2), 16);
        due.is("all of 64", x.copy(0, 0, 2, 0, 2), 64);
        x.put(63, 0);
        due.is("one AGREES", x.copy(0, 0, 1, 36, 2), 15);
        x.put(63, 1);
        due.is("one CLASHES", x.copy(0, 0, 1, 36, 2), 15);
        due.is("none is LOST", painted("book aaaa aaaa aaaa aaaa;", 0).copy(0, 0, 2, 0, 2), 0);
        BeastFloor y = due.told("book aaaa aaaa aaaa aaaa;");
        y.copy(0, 0, 2, 0, 2);
        due.is("it fills none", y.count(0), 64);
    }

    private static void nothingIsTold() {
        due.sentence("COPIES: (.. cells of which nothing is told do neither)");
        BeastFloor x = painted("book xxxx xxxx xxxx xxxx;", 3);
        for (int what = 0; what < 3; what++) {
            due.is("copy(0, 0, 1, 0, " + what + ")", x.copy(0, 0, 1, 0, what), 0);
            due.is("copy(0, 0, 2, 0, " + what + ")", x.copy(0, 0, 2, 0, what), 0);
        }
        BeastFloor lost = due.told("book xxxx xxxx xxxx xxxx;");
        due.is("copy(0, 0, 2, 0, 2) of LOST ones", lost.copy(0, 0, 2, 0, 2), 0);
    }

    private static void twiceAsLarge() {
        due.sentence("COPIES: of a SCALE (1, or 2: each of its cells is 2 by 2 CELLS)");
        String[] books = {"book axxx xxxx xxxx xxxx;", "book xxxx xxxx xxxx xxxa;"};
        int[][] cells = {{0, 1, 8, 9}, {54, 55, 62, 63}};
        int[][] beside = {{2, 10, 16, 17, 18}, {53, 61, 46, 47, 45}};
        for (int i = 0; i < 2; i++) {
            BeastFloor x = due.told(books[i]);
            for (int cell : beside[i]) {
                x.put(cell, 1);
            }
            due.is("CLASHES beside it", x.copy(0, 0, 2, 0, 1), 0);
            for (int cell : cells[i]) {
                x.put(cell, 0);
            }
            due.is("AGREES", x.copy(0, 0, 2, 0, 0), 4);
        }
    }

    private static void copyIsBad() {
        due.sentence("27: BAD");
        for (int what = 0; what < 3; what++) {
            int of = what;
            String last = ", " + of + ")";
            due.outside(State.NEW, "copy(#, 0, 1, 0" + last, (x, p) -> x.copy(p, 0, 1, 0, of), -1, 0, -1);
            due.outside(State.RICH, "copy(#, 0, 1, 0" + last, (x, p) -> x.copy(p, 0, 1, 0, of), -1, 0, 1);
            due.outside(State.FULL, "copy(#, 0, 1, 0" + last, (x, p) -> x.copy(p, 0, 1, 0, of), -1, 0, 3);
            due.outside(State.RICH, "copy(1, #, 1, 0" + last, (x, way) -> x.copy(1, way, 1, 0, of), -1, 0, 7);
            due.outside(State.RICH, "copy(1, 0, #, 0" + last, (x, scale) -> x.copy(1, 0, scale, 0, of), -1, 1, 2);
            due.outside(State.RICH, "copy(1, 0, 1, #" + last, (x, cell) -> x.copy(1, 0, 1, cell, of), -1, 0, 63);
        }
        due.outside(State.RICH, "copy(1, 0, 1, 0, #)", (x, what) -> x.copy(1, 0, 1, 0, what), -1, 0, 2);
        due.outside(State.FULL, "copy(3, 7, 2, 0, #)", (x, what) -> x.copy(3, 7, 2, 0, what), -1, 0, 2);
    }

    private static void copyThatCanNotBeThere() {
        due.sentence("27: BAD: also one that can not be there");
        for (int cell = 0; cell < 64; cell++) {
            BeastFloor x = due.told("book aaaa aaaa aaaa aaaa;");
            boolean fits = cell / 8 <= 4 && cell % 8 <= 4;
            due.is("copy(0, 0, 1, " + cell + ", 2)", x.copy(0, 0, 1, cell, 2), fits ? 16 : -1);
            due.is("copy(0, 0, 2, " + cell + ", 2)", x.copy(0, 0, 2, cell, 2), cell == 0 ? 64 : -1);
        }
        due.refusedWith(State.RICH, "copy(1, 0, 1, #, 0)", (x, cell) -> x.copy(1, 0, 1, cell, 0), -1, 5, 37, 40, 44, 63);
        due.refusedWith(State.RICH, "copy(1, 0, 2, #, 0)", (x, cell) -> x.copy(1, 0, 2, cell, 0), -1, 1, 8, 9, 36);
    }

    // ---- best

    private static void best(BeastFloor x, int... want) {
        for (int what = 0; what < 5; what++) {
            due.is("best(" + what + ")", x.best(what), want[what]);
        }
    }

    private static void bestOfNone() {
        due.sentence("28: NONE");
        for (int what = 0; what < 5; what++) {
            due.refusedWith(State.NEW, "best(#)", BeastFloor::best, -4, what);
            due.refusedWith(State.RING, "best(#)", BeastFloor::best, -4, what);
        }
        due.is("all LOST", due.told("book aaaa aaaa aaaa aaaa;").best(0), -4);
    }

    private static void oneAtLeast() {
        due.sentence("BEST: AGREES in the most CELLS (one at least)");
        BeastFloor x = due.told("book bxxx xxxx xxxx xxxx;");
        x.put(63, 0);
        due.is("none AGREES", x.best(4), -4);
        x.put(63, 1);
        // On CELL 63 lies the corner b turned by a half.
        best(x, 0, 2, 1, 36, 1);
    }

    private static void withoutClashes() {
        due.sentence("BEST: of all COPIES without CLASHES");
        BeastFloor x = due.told("book aaaa aaab xxxx xxxx;");
        for (int cell = 0; cell < 8; cell++) {
            x.put(cell, 0);
            x.put(8 + cell, 0);
        }
        // Seven a would AGREE, were it not for the b: so it lies with two rows, or one, where nothing is.
        int agrees = x.best(4);
        int p = x.best(0);
        due.holds("some AGREES", agrees > 0);
        due.is("CLASHES of the BEST", x.copy(p, x.best(1), x.best(2), x.best(3), 1), 0);
        due.is("AGREES as told", x.copy(p, x.best(1), x.best(2), x.best(3), 0), agrees);
        BeastFloor all = painted("book aaaa aaaa aaaa aaab;", 0);
        due.is("each COPY CLASHES", all.best(0), -4);
    }

    private static void theMostCells() {
        due.sentence("28: 4 in how many it AGREES");
        best(painted("book aaaa aaaa aaaa aaaa;", 0), 0, 0, 2, 0, 64);
        BeastFloor x = due.told("book abcd efab cdef abcd;");
        x.lay(0, 7, 1, 36);
        best(x, 0, 7, 1, 36, 16);
        BeastFloor y = due.told("book axxx xxxx xxxx xxxx;book aaxx xxxx xxxx xxxx;book xxxx xxxx xxxx xxxx;book aaax xxxx xxxx xxxx;");
        // In the midst, where no COPY of SCALE 2 has an a.
        y.put(26, 0);
        y.put(27, 0);
        y.put(28, 0);
        best(y, 3, 0, 1, 26, 3);
    }

    private static void theFirstPattern() {
        due.sentence("BEST: of several by PATTERN .. the first");
        BeastFloor x = due.told("book xxxx xxxx xxxx xxxx;book xxxx xxxx xxxx axxx;book axxx xxxx xxxx xxxx;");
        x.put(0, 0);
        // PATTERN 1 turned ahead of PATTERN 2 as it is.
        best(x, 1, 1, 1, 0, 1);
    }

    private static void theFirstScale() {
        due.sentence("BEST: of several by .. SCALE .. the first");
        BeastFloor x = due.told("book xxxx xxxx xxxx xaxx;");
        x.put(10, 0);
        // At SCALE 2 in a WAY below: one CELL too, but SCALE 1 comes first.
        int way = x.best(1);
        due.is("best(2)", x.best(2), 1);
        due.is("best(4)", x.best(4), 1);
        due.is("best(0)", x.best(0), 0);
        due.holds("it AGREES", x.copy(0, way, 1, x.best(3), 0) == 1);
        BeastFloor y = due.told("book xxxx xaxx xxxx xxxx;");
        y.put(63, 0);
        // No COPY of SCALE 1 reaches CELL 63 with an inner cell, none of SCALE 2 either.
        due.is("best(0) of what is out of reach", y.best(0), -4);
        BeastFloor z = due.told("book axxx xxxx xxxx xxxx;");
        z.put(0, 0);
        best(z, 0, 0, 1, 0, 1);
        z.put(1, 0);
        // Two CELLS side by side only at SCALE 2.
        best(z, 0, 0, 2, 0, 2);
    }

    private static void theFirstWay() {
        due.sentence("BEST: of several by .. WAY .. the first");
        BeastFloor x = due.told("book axxx xxxx xxxx xxxx;");
        x.put(63, 0);
        // On the last corner lies a turned by a half (2), and mirrored and turned by a quarter (5).
        best(x, 0, 2, 1, 36, 1);
        BeastFloor y = due.told("book axxx xxxx xxxx xxxx;");
        y.put(3, 0);
        y.put(60, 0);
        // WAY 0 at CELL 3 ahead of WAY 2 at a CELL of a lower number.
        best(y, 0, 0, 1, 3, 1);
    }

    private static void theFirstCell() {
        due.sentence("BEST: of several by .. CELL the first");
        BeastFloor x = due.told("book axxx xxxx xxxx xxxx;");
        x.put(36, 0);
        best(x, 0, 0, 1, 36, 1);
        x.put(35, 0);
        best(x, 0, 0, 1, 35, 1);
        x.put(4, 0);
        best(x, 0, 0, 1, 4, 1);
    }

    private static void bestIsBad() {
        due.sentence("28: BAD; NONE, the first that fits");
        for (State state : State.values()) {
            due.outside(state, "best(#)", BeastFloor::best, -1, 0, 4);
        }
    }

    // ---- copies

    private static void allCopies() {
        due.sentence("29: Of all COPIES of a PATTERN how many");
        BeastFloor x = due.told("book aaaa aaaa aaaa aaaa;book abcd efab cdef abcd;book xxxx xxxx xxxx xxxx;book bbbb bbbb bbbb bbbb;");
        for (int p = 0; p < 4; p++) {
            due.is("copies(" + p + ", 0) of LOST CELLS", x.copies(p, 0), 208);
            due.is("copies(" + p + ", 1) of LOST CELLS", x.copies(p, 1), 0);
        }
    }

    private static void agreeInNOrMore() {
        due.sentence("29: AGREE in n CELLS or more (n 0 to 64)");
        BeastFloor x = painted("book aaaa aaaa aaaa aaaa;book aaaa aaaa aaaa aaax;", 0);
        due.is("copies(0, 0)", x.copies(0, 0), 208);
        due.is("copies(0, 16)", x.copies(0, 16), 208);
        due.is("copies(0, 17)", x.copies(0, 17), 8);
        due.is("copies(0, 64)", x.copies(0, 64), 8);
        due.is("copies(1, 15)", x.copies(1, 15), 208);
        due.is("copies(1, 16)", x.copies(1, 16), 8);
        due.is("copies(1, 60)", x.copies(1, 60), 8);
        due.is("copies(1, 61)", x.copies(1, 61), 0);
        due.is("copies(1, 64)", x.copies(1, 64), 0);
        due.is("of nothing that is told", painted("book xxxx xxxx xxxx xxxx;", 0).copies(0, 0), 208);
        due.is("of nothing that is told", painted("book xxxx xxxx xxxx xxxx;", 0).copies(0, 1), 0);
    }

    private static void noClash() {
        due.sentence("29: have no CLASH");
        due.is("each has", painted("book aaaa aaaa aaaa aaab;", 0).copies(0, 0), 0);
        due.is("all of another COLOUR", painted("book aaaa aaaa aaaa aaaa;", 1).copies(0, 0), 0);
        BeastFloor x = due.told("book aaaa aaaa aaaa aaaa;");
        x.put(0, 1);
        // Those of SCALE 1 at CELL 0 and those of SCALE 2 CLASH.
        due.is("one CELL", x.copies(0, 0), 208 - 16);
    }

    private static void copiesIsBad() {
        due.sentence("29: BAD");
        due.outside(State.NEW, "copies(#, 0)", (x, p) -> x.copies(p, 0), -1, 0, -1);
        due.refused(State.NEW, "copies(0, 0)", x -> x.copies(0, 0), -1);
        due.outside(State.RICH, "copies(#, 0)", (x, p) -> x.copies(p, 0), -1, 0, 1);
        due.outside(State.FULL, "copies(#, 64)", (x, p) -> x.copies(p, 64), -1, 0, 3);
        due.outside(State.RICH, "copies(0, #)", (x, n) -> x.copies(0, n), -1, 0, 64);
        due.outside(State.FULL, "copies(3, #)", (x, n) -> x.copies(3, n), -1, 0, 64);
    }
}
