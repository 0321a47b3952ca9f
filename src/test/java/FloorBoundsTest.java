/** Boundary cases of put, at, lay: promises 9 to 11. */
public final class FloorBoundsTest {
    private static final Bounds due = new Bounds();

    public static void main(String[] args) {
        cellsOfTheFloor();
        coloursOfACell();
        putSaysWhatItWas();
        putIsBad();
        atIsBad();
        rowsAndColumns();
        layWhereItCanBe();
        layLargeWhereItCanBe();
        layOfWhatThereIsNot();
        layOnLostCellsAlone();
        layHowMany();
        layClashes();
        layWithoutAClash();
        badAheadOfState();
        due.end();
    }

    private static void cellsOfTheFloor() {
        due.sentence("THE FLOOR has 64 CELLS");
        BeastFloor x = new BeastFloor();
        for (int cell = 0; cell < 64; cell++) {
            due.is("put(" + cell + ", 3)", x.put(cell, 3), -1);
            due.is("at(" + cell + ")", x.at(cell), 3);
            due.is("count(0)", x.count(0), 63 - cell);
        }
    }

    private static void coloursOfACell() {
        due.sentence("each with a COLOUR a to f (0 to 5), or LOST (-1; all at first)");
        BeastFloor x = new BeastFloor();
        for (int v = -1; v <= 5; v++) {
            due.is("put(63, " + v + ")", x.put(63, v), Math.max(-1, v - 1));
            due.is("at(63)", x.at(63), v);
            due.is("count(0)", x.count(0), v < 0 ? 64 : 63);
        }
        due.is("put(63, -1)", x.put(63, -1), 5);
        due.is("at(63)", x.at(63), -1);
        due.is("count(0)", x.count(0), 64);
    }

    private static void putSaysWhatItWas() {
        due.sentence("9: A CELL becomes v (-1 to 5): what it was");
        BeastFloor x = new BeastFloor();
        due.is("put(0, -1): it was LOST", x.put(0, -1), -1);
        due.is("put(0, 5)", x.put(0, 5), -1);
        due.is("put(0, 5) again", x.put(0, 5), 5);
        due.is("put(0, 0)", x.put(0, 0), 5);
        due.is("put(0, -1)", x.put(0, -1), 0);
        due.is("the CELL beside it", x.at(1), -1);
        due.is("stones(5): no longer", x.stones(5), 0);
    }

    private static void putIsBad() {
        due.sentence("9: BAD -9");
        for (State state : State.values()) {
            due.outside(state, "put(#, 0)", (x, cell) -> x.put(cell, 0), -9, 0, 63);
            due.outside(state, "put(0, #)", (x, v) -> x.put(0, v), -9, -1, 5);
            due.outside(state, "put(63, #)", (x, v) -> x.put(63, v), -9, -1, 5);
        }
        due.refused(State.RICH, "put(64, 6)", x -> x.put(64, 6), -9);
        due.refusedWith(State.RICH, "put(#, -1)", (x, cell) -> x.put(cell, -1), -9, -1, 64, 128, -64);
    }

    private static void atIsBad() {
        due.sentence("10: COLOUR of a CELL (-1: LOST). BAD -9");
        due.answers(State.NEW, "at(0)", x -> x.at(0), -1);
        due.answers(State.NEW, "at(63)", x -> x.at(63), -1);
        due.answers(State.FULL, "at(0)", x -> x.at(0), 0);
        due.answers(State.FULL, "at(63)", x -> x.at(63), 3);
        for (State state : State.values()) {
            due.outside(state, "at(#)", BeastFloor::at, -9, 0, 63);
        }
    }

    private static void rowsAndColumns() {
        due.sentence("(8 rows of 8; CELL 8 times its row and its column)");
        BeastFloor x = due.told("book abcd efab cdef abcd;");
        x.lay(0, 0, 1, 36);
        int[] cells = {36, 37, 38, 39, 44, 45, 46, 47, 52, 53, 54, 55, 60, 61, 62, 63};
        String want = "abcdefabcdefabcd";
        for (int i = 0; i < 16; i++) {
            due.is("at(" + cells[i] + ")", x.at(cells[i]), want.charAt(i) - 'a');
        }
        due.is("count(0)", x.count(0), 48);
    }

    // ---- lay

    private static void layWhereItCanBe() {
        due.sentence("11: BAD: a COPY that can not be there (SCALE 1)");
        for (int cell = 0; cell < 64; cell++) {
            BeastFloor x = due.told("book aaaa aaaa aaaa aaaa;");
            boolean fits = cell / 8 <= 4 && cell % 8 <= 4;
            due.is("lay(0, 0, 1, " + cell + ")", x.lay(0, 0, 1, cell), fits ? 16 : -1);
            due.is("count(0)", x.count(0), fits ? 48 : 64);
            due.is("copy(0, 0, 1, " + cell + ", 0)", x.copy(0, 0, 1, cell, 0), fits ? 16 : -1);
        }
        due.refusedWith(State.RICH, "lay(1, 0, 1, #)", (x, cell) -> x.lay(1, 0, 1, cell), -1, 5, 7, 37, 40, 44, 56, 61, 63);
    }

    private static void layLargeWhereItCanBe() {
        due.sentence("11: BAD: a COPY that can not be there (SCALE 2)");
        for (int cell = 0; cell < 64; cell++) {
            BeastFloor x = due.told("book aaaa aaaa aaaa aaaa;");
            due.is("lay(0, 0, 2, " + cell + ")", x.lay(0, 0, 2, cell), cell == 0 ? 64 : -1);
            due.is("count(0)", x.count(0), cell == 0 ? 0 : 64);
        }
        due.refusedWith(State.RICH, "lay(1, 0, 2, #)", (x, cell) -> x.lay(1, 0, 2, cell), -1, 1, 4, 8, 9, 32, 36, 63);
    }

    private static void layOfWhatThereIsNot() {
        due.sentence("11: BAD (PATTERN, WAY, SCALE, CELL)");
        due.outside(State.NEW, "lay(#, 0, 1, 0)", (x, p) -> x.lay(p, 0, 1, 0), -1, 0, -1);
        due.refused(State.NEW, "lay(0, 0, 1, 0)", x -> x.lay(0, 0, 1, 0), -1);
        due.outside(State.RICH, "lay(#, 0, 1, 27)", (x, p) -> x.lay(p, 0, 1, 27), -1, 0, 1);
        due.outside(State.FULL, "lay(#, 0, 1, 27)", (x, p) -> x.lay(p, 0, 1, 27), -1, 0, 3);
        due.outside(State.RICH, "lay(1, #, 1, 27)", (x, way) -> x.lay(1, way, 1, 27), -1, 0, 7);
        due.outside(State.RICH, "lay(1, 0, #, 0)", (x, scale) -> x.lay(1, 0, scale, 0), -1, 1, 2);
        due.refusedWith(State.RICH, "lay(1, 0, #, 0)", (x, scale) -> x.lay(1, 0, scale, 0), -1, -1, -2, 4);
        due.outside(State.RICH, "lay(1, 0, 1, #)", (x, cell) -> x.lay(1, 0, 1, cell), -1, 0, 63);
        due.outside(State.RICH, "lay(1, 0, 2, #)", (x, cell) -> x.lay(1, 0, 2, cell), -1, 0, 0);
        BeastFloor x = due.told("book aaaa xxxx xxxx xxxx;".repeat(4));
        due.is("the last PATTERN, the last WAY", x.lay(3, 7, 1, 0), 4);
        due.is("at(24)", x.at(24), 0);
    }

    private static void layOnLostCellsAlone() {
        due.sentence("11: A COPY of a PATTERN is laid on LOST CELLS alone");
        BeastFloor x = due.told("book aaaa xxxx xxxx xxxx;");
        x.put(0, 0);
        x.put(8, 5);
        due.is("lay", x.lay(0, 0, 1, 0), 3);
        due.is("at(0)", x.at(0), 0);
        due.is("at(3)", x.at(3), 0);
        due.is("at(4): beside it", x.at(4), -1);
        due.is("at(8): nothing is told of it", x.at(8), 5);
        due.is("at(9)", x.at(9), -1);
        due.is("count(0)", x.count(0), 59);
    }

    private static void layHowMany() {
        due.sentence("11: how many it filled");
        BeastFloor x = due.told("book xxxx xxxx xxxx xxxx;book axxx xxxx xxxx xxxx;book abcd abcd abcd abcd;");
        due.is("none is told", x.lay(0, 0, 1, 0), 0);
        due.is("none is told, twice as large", x.lay(0, 0, 2, 0), 0);
        due.is("one", x.lay(1, 0, 1, 36), 1);
        due.is("again: none is LOST", x.lay(1, 0, 1, 36), 0);
        due.is("one cell, twice as large", x.lay(1, 0, 2, 0), 4);
        x.put(36, -1);
        for (int cell : new int[] {0, 1, 8, 9}) {
            x.put(cell, -1);
        }
        due.is("all of 16", x.lay(2, 0, 1, 36), 16);
        BeastFloor y = due.told("book abcd abcd abcd abcd;");
        due.is("all of 64", y.lay(0, 0, 2, 0), 64);
        due.is("count(0)", y.count(0), 0);
        due.is("all of 64 again", y.lay(0, 0, 2, 0), 0);
    }

    private static void layClashes() {
        due.sentence("11: STATE: it CLASHES");
        // In RICH row 2 begins with aaaa: PATTERN 0 has b there.
        due.refused(State.RICH, "lay(0, 0, 1, 16)", x -> x.lay(0, 0, 1, 16), -2);
        due.refused(State.RICH, "lay(0, 0, 2, 0)", x -> x.lay(0, 0, 2, 0), -2);
        due.refused(State.FULL, "lay(1, 0, 1, 0)", x -> x.lay(1, 0, 1, 0), -2);
        due.refused(State.FULL, "lay(1, 0, 2, 0)", x -> x.lay(1, 0, 2, 0), -2);
        // One CLASH in the last of 16 CELLS, the others LOST or the same.
        BeastFloor x = due.told("book aaaa aaaa aaaa aaab;");
        x.put(63, 0);
        x.put(36, 0);
        due.is("lay with one CLASH", x.lay(0, 0, 1, 36), -2);
        due.is("count(0): nothing was laid", x.count(0), 62);
        x.put(63, 1);
        due.is("lay without one", x.lay(0, 0, 1, 36), 14);
    }

    private static void layWithoutAClash() {
        due.sentence("CLASHES in those that have another one (not LOST ones; cells of which nothing is told do neither)");
        BeastFloor x = due.told("book axxx xxxx xxxx xxxx;");
        for (int cell = 1; cell < 64; cell++) {
            x.put(cell, 5);
        }
        due.is("lay on the one LOST CELL", x.lay(0, 0, 1, 0), 1);
        due.is("at(0)", x.at(0), 0);
        due.is("lay on another COLOUR", x.lay(0, 0, 1, 1), -2);
    }

    private static void badAheadOfState() {
        due.sentence("11: BAD .. STATE, the first that fits");
        due.refused(State.FULL, "lay(1, 0, 1, 5)", x -> x.lay(1, 0, 1, 5), -1);
        due.refused(State.FULL, "lay(1, 0, 2, 1)", x -> x.lay(1, 0, 2, 1), -1);
        due.refused(State.FULL, "lay(4, 0, 1, 0)", x -> x.lay(4, 0, 1, 0), -1);
        due.refused(State.FULL, "lay(1, 8, 1, 0)", x -> x.lay(1, 8, 1, 0), -1);
        due.refused(State.FULL, "lay(1, 0, 3, 0)", x -> x.lay(1, 0, 3, 0), -1);
    }
}
