/** Promises 27 to 34: copy, best, copies; symmetries, may, lost, fill, undo. */
public final class BookTest {
    private static final Due due = new Due();

    public static void main(String[] args) {
        copying();
        bestOnes();
        counting();
        symmetries();
        bySymmetry();
        byTheBook();
        byBoth();
        filling();
        undoing();
        due.end();
    }

    private static void copying() {
        BeastFloor x = due.told("book aabb xxxx cccc dddd;");
        x.put(0, 0);
        x.put(1, 1);
        x.put(8, 5);
        due.is("copy AGREES", x.copy(0, 0, 1, 0, 0), 1);
        due.is("copy CLASHES", x.copy(0, 0, 1, 0, 1), 1);
        due.is("copy would fill", x.copy(0, 0, 1, 0, 2), 10);
        due.is("copy, twice as large, AGREES", x.copy(0, 0, 2, 0, 0), 1);
        due.is("copy, twice as large, CLASHES", x.copy(0, 0, 2, 0, 1), 2);
        due.is("copy, twice as large, would fill", x.copy(0, 0, 2, 0, 2), 45);
        due.is("copy, turned", x.copy(0, 1, 1, 0, 1), 3);
        due.is("copy changes nothing", x.count(0), 61);
        due.is("copy at the lowest right", x.copy(0, 0, 1, 36, 2), 12);
        int[][] bad = {{1, 0, 1, 0, 0}, {-1, 0, 1, 0, 0}, {0, -1, 1, 0, 0}, {0, 8, 1, 0, 0}, {0, 0, 0, 0, 0},
            {0, 0, 3, 0, 0}, {0, 0, 1, -1, 0}, {0, 0, 1, 64, 0}, {0, 0, 1, 5, 0}, {0, 0, 1, 40, 0}, {0, 0, 2, 9, 0},
            {0, 0, 1, 0, -1}, {0, 0, 1, 0, 3}};
        for (int[] b : bad) {
            due.is("copy of a number not as told", x.copy(b[0], b[1], b[2], b[3], b[4]), -1);
        }
    }

    private static void best(BeastFloor x, int... want) {
        for (int what = 0; what < 5; what++) {
            due.is("best(" + what + ")", x.best(what), want[what]);
        }
    }

    private static void bestOnes() {
        BeastFloor x = due.told("book abxx xxxx xxxx xxxx;book aaxx xxxx xxxx xxxx;book aaxx xxxx xxxx xxxx;");
        due.is("best(0) of none", x.best(0), -4);
        due.is("best(5)", x.best(5), -1);
        due.is("best(-1)", x.best(-1), -1);
        x.put(0, 2);
        due.is("best(0): nothing AGREES", x.best(0), -4);
        x.put(27, 0);
        // PATTERN 0, once as large, its a on CELL 27.
        best(x, 0, 0, 1, 27, 1);
        x.put(28, 0);
        // Two AGREE in PATTERN 1 alone, the earlier of two like ones.
        best(x, 1, 0, 1, 27, 2);
        x.put(27, -1);
        x.put(28, -1);
        x.put(0, -1);
        for (int cell : new int[] {0, 1, 8, 9}) {
            x.put(cell, 0);
        }
        // Four CELLS: the SCALE 2, ahead of none of SCALE 1 that AGREES in as many.
        best(x, 0, 0, 2, 0, 4);
        // SCALE comes ahead of WAY: a full square of one COLOUR in a WAY above 0 at SCALE 1.
        BeastFloor y = due.told("book xxxa xxxx xxxx xxxx;");
        y.put(0, 0);
        best(y, 0, 3, 1, 0, 1);
    }

    private static void counting() {
        BeastFloor x = due.told("book axxx xxxx xxxx xxxb;");
        due.is("copies(0, 0)", x.copies(0, 0), 208);
        due.is("copies(0, 1)", x.copies(0, 1), 0);
        due.is("copies(0, 64)", x.copies(0, 64), 0);
        x.put(0, 0);
        // On CELL 0 lies a corner of a COPY at 0: two of 8 WAYS tell a, two b, of either SCALE.
        due.is("copies(0, 0)", x.copies(0, 0), 208 - 4);
        due.is("copies(0, 1)", x.copies(0, 1), 4);
        due.is("copies(0, 2)", x.copies(0, 2), 0);
        due.is("copies(1, 0)", x.copies(1, 0), -1);
        due.is("copies(-1, 0)", x.copies(-1, 0), -1);
        due.is("copies(0, -1)", x.copies(0, -1), -1);
        due.is("copies(0, 65)", x.copies(0, 65), -1);
        BeastFloor all = due.told("book aaaa aaaa aaaa aaaa;");
        for (int cell = 0; cell < 64; cell++) {
            all.put(cell, 0);
        }
        due.is("copies(0, 16)", all.copies(0, 16), 208);
        due.is("copies(0, 17)", all.copies(0, 17), 8);
        due.is("copies(0, 64)", all.copies(0, 64), 8);
    }

    private static void symmetries() {
        BeastFloor x = new BeastFloor();
        due.is("symmetries() of nothing", x.symmetries(), 254);
        x.put(1, 0);
        due.is("symmetries() of one CELL", x.symmetries(), 254);
        BeastFloor corners = new BeastFloor();
        corners.put(0, 0);
        corners.put(7, 1);
        due.is("symmetries() of two corners", corners.symmetries(), 4 + 32 + 64 + 128);
        corners.put(7, -1);
        corners.put(56, 1);
        due.is("symmetries() of two corners", corners.symmetries(), 4 + 16 + 32 + 128);
        corners.put(56, -1);
        corners.put(63, 1);
        due.is("symmetries() of two corners", corners.symmetries(), 2 + 8 + 16 + 64 + 128);
        // To each other CELL of its eight in turn: the WAYS that bring one to the other no longer HOLD.
        int[] other = {15, 62, 48, 6, 55, 57, 8};
        int[] gone = {2 + 8, 4, 2 + 8, 16, 32, 64, 128};
        for (int i = 0; i < 7; i++) {
            x.put(other[i], 1);
            due.is("symmetries() with " + other[i], x.symmetries(), 254 - gone[i]);
            x.put(other[i], 0);
            due.is("symmetries() with the same on " + other[i], x.symmetries(), 254);
            x.put(other[i], -1);
        }
    }

    private static void bySymmetry() {
        BeastFloor x = new BeastFloor();
        due.is("may(0, 0) of nothing", x.may(0, 0), -4);
        x.put(1, 4);
        for (int cell : new int[] {15, 62, 48, 6, 55, 57, 8}) {
            due.is("may(" + cell + ", 0)", x.may(cell, 0), 4);
            due.is("may(" + cell + ", 1)", x.may(cell, 1), -4);
            due.is("may(" + cell + ", 2)", x.may(cell, 2), 4);
        }
        due.is("may(0, 0)", x.may(0, 0), -4);
        due.is("may(1, 0): it is not LOST", x.may(1, 0), -1);
        due.is("may(-1, 0)", x.may(-1, 0), -1);
        due.is("may(64, 0)", x.may(64, 0), -1);
        due.is("may(0, -1)", x.may(0, -1), -1);
        due.is("may(0, 3)", x.may(0, 3), -1);
        // 1 and 15 are unlike: the quarters no longer HOLD. The others bring both to four CELLS, one to each of two.
        x.put(15, 2);
        due.is("symmetries()", x.symmetries(), 244);
        for (int cell : new int[] {6, 8, 55, 57}) {
            due.is("may(" + cell + ", 0)", x.may(cell, 0), -2);
            due.is("may(" + cell + ", 2)", x.may(cell, 2), -2);
        }
        due.is("may(62, 0): by the half from 1", x.may(62, 0), 4);
        due.is("may(48, 0): by the half from 15", x.may(48, 0), 2);
        due.is("lost(0)", x.lost(0), 2);
        due.is("lost(1)", x.lost(1), 4);
        due.is("lost(2)", x.lost(2), 56);
        due.is("fill()", x.fill(), 2);
        due.is("undo()", x.undo(), 2);
        // The WAYS that HOLD are asked one by one: two of them one behind the other say nothing.
        BeastFloor y = new BeastFloor();
        y.put(2, 0);
        for (int cell : new int[] {23, 61, 47, 58}) {
            y.put(cell, 1);
        }
        due.is("symmetries()", y.symmetries(), 16 + 128);
        y.put(1, 2);
        int[] cells = {6, 8, 15, 62, 48, 55, 57};
        for (int i = 0; i < 7; i++) {
            due.is("may(" + cells[i] + ", 0)", y.may(cells[i], 0), i < 2 ? 2 : -4);
        }
    }

    private static void byTheBook() {
        BeastFloor x = due.told("book abcd efxx xxxx xxxx;");
        x.put(0, 0);
        x.put(1, 1);
        x.put(2, 2);
        due.is("may(3, 1): AGREES in 3 alone", x.may(3, 1), -4);
        x.put(8, 4);
        due.is("may(3, 1)", x.may(3, 1), 3);
        due.is("may(9, 1)", x.may(9, 1), 5);
        due.is("may(10, 1): nothing is told of it", x.may(10, 1), -4);
        due.is("may(0, 1)", x.may(0, 1), -1);
        x.put(3, 0);
        due.is("may(9, 1): it CLASHES", x.may(9, 1), -4);
        // Two PATTERNS that say unlike ones.
        BeastFloor y = due.told("book aaaa bxxx xxxx xxxx;book aaaa cxxx xxxx xxxx;");
        for (int cell = 16; cell < 20; cell++) {
            y.put(cell, 0);
        }
        due.is("may(24, 1)", y.may(24, 1), -2);
        due.is("may(24, 0): not a word by SYMMETRY", y.may(24, 0), -4);
        due.is("may(24, 2)", y.may(24, 2), -2);
    }

    private static void byBoth() {
        // The mirror says a of CELL 31, the book b.
        BeastFloor x = due.told("book cdef bxxx xxxx xxxx;");
        Due.lay(x, "........ ........ ....cdef a....... ........ ........ ........ ........");
        x.put(31, -1);
        BeastFloor y = due.told("book fedc xxxb xxxx xxxx;");
        Due.lay(y, "........ ........ ....fedc a....... ........ ........ ........ ........");
        due.is("may(31, 0)", y.may(31, 0), 0);
        due.is("may(31, 1)", y.may(31, 1), 1);
        due.is("may(31, 2): UNLIKE", y.may(31, 2), -2);
        y.put(24, 1);
        due.is("may(31, 2): both the same", y.may(31, 2), 1);
        y.put(24, -1);
        due.is("may(31, 2): by the book alone", y.may(31, 2), 1);
        due.is("may(28, 1)", x.may(28, 1), 1);
        due.is("lost(0) + lost(1) + lost(2)", y.lost(0) + y.lost(1) + y.lost(2), y.count(0));
        due.is("lost(3)", y.lost(3), -1);
        due.is("lost(-1)", y.lost(-1), -1);
    }

    private static void filling() {
        BeastFloor x = due.told("book aaaa bxxx xxxx xxxx;book aaaa cxxx xxxx xxxx;");
        due.is("fill() of nothing", x.fill(), 0);
        for (int cell = 16; cell < 20; cell++) {
            x.put(cell, 0);
        }
        int sure = x.lost(0);
        int lost = x.count(0);
        due.holds("some are SURE", sure > 0);
        due.is("fill()", x.fill(), sure);
        due.is("count(0)", x.count(0), lost - sure);
        due.is("at(24): UNLIKE", x.at(24), -1);
        due.is("at(20): the mirror", x.at(20), 0);
        // At once: what is SURE only by what was FILLED comes with the next fill().
        BeastFloor y = new BeastFloor();
        y.put(1, 2);
        y.put(2, 0);
        for (int cell : new int[] {23, 61, 47, 58}) {
            y.put(cell, 1);
        }
        due.is("symmetries()", y.symmetries(), 16 + 128);
        due.is("fill()", y.fill(), 4);
        due.is("at(6): mirrored from 1", y.at(6), 2);
        due.is("at(8): across the diagonal from 1", y.at(8), 2);
        due.is("at(15): only by 8", y.at(15), -1);
        due.is("symmetries() of the FILLED one", y.symmetries(), 16);
        due.is("fill()", y.fill(), 2);
        due.is("at(15)", y.at(15), 2);
        due.is("at(16): no longer UNLIKE", y.at(16), 1);
        due.is("undo() of the latest alone", y.undo(), 2);
        due.is("at(6) stays", y.at(6), 2);
    }

    private static void undoing() {
        BeastFloor x = new BeastFloor();
        due.is("undo() of none", x.undo(), -2);
        x.put(1, 4);
        due.is("fill()", x.fill(), 7);
        due.is("put of a FILLED one, the same", x.put(15, 4), 4);
        due.is("put of a FILLED one, LOST", x.put(62, -1), 4);
        x.sheet(0, 0, 2);
        x.write(0, 0, 4);
        due.is("read of a FILLED one", x.read(0, 0, 0, 48, 1), 1);
        due.is("read that is torn of a FILLED one", x.read(3, 0, 0, 6, 1), 0);
        x.write(0, 1, 9);
        due.is("read that is refused", x.read(0, 0, 1, 55, 1), -20);
        due.is("put that is refused", x.put(55, 6), -9);
        Due.tell(x, "row 1 1;");
        due.is("undo()", x.undo(), 3);
        due.is("at(15) stays", x.at(15), 4);
        due.is("at(48) stays", x.at(48), 4);
        due.is("at(1) stays", x.at(1), 4);
        due.is("at(55)", x.at(55), -1);
        due.is("at(57)", x.at(57), -1);
        due.is("at(8)", x.at(8), -1);
        due.is("undo() again", x.undo(), -2);
        due.is("fill() anew", x.fill(), 5);
        due.is("mix that is refused", x.mix(0, 0), -1);
        due.is("undo()", x.undo(), 5);
        due.is("fill()", x.fill(), 5);
        due.is("mix to where it was", x.mix(27, 0), 1);
        due.is("undo() behind mix()", x.undo(), -2);
        due.is("fill() of none", x.fill(), 0);
        due.is("undo() of the latest, which FILLED none", x.undo(), 0);
        due.is("undo() again", x.undo(), -2);
    }
}
