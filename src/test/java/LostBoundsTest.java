/** Boundary cases of symmetries, may, lost, fill, undo: promises 30 to 34. */
public final class LostBoundsTest {
    private static final Bounds due = new Bounds();
    private static final String ROW_OF_FOUR = "........ ........ ....fedc ........ ........ ........ ........ ........";

    public static void main(String[] args) {
        allSymmetriesHold();
        noneHolds();
        eachHoldsAlone();
        lostCellsBreakNone();
        mayIsBad();
        mayOfACellThatIsNotLost();
        nothingIsSaid();
        bySymmetry();
        symmetriesThatDoNotHold();
        bySymmetryUnlike();
        byTheBookInFourOrMore();
        byTheBookTwiceAsLarge();
        byTheBookWithoutClashes();
        byTheBookUnlike();
        sureByBothTheSame();
        sureByOneOfBoth();
        unlikeBesideOneAnother();
        unlikeInOneOfBoth();
        lostCounts();
        lostIsBad();
        fillNone();
        fillAll();
        fillAtOnce();
        undoOfNone();
        undoWhatWasUndone();
        undoTheLatest();
        undoButForThosePut();
        undoButForThoseRead();
        undoBehindRefusals();
        undoBehindMix();
        undoBehindOtherCalls();
        due.end();
    }

    // ---- symmetries

    private static void allSymmetriesHold() {
        due.sentence("30: SYMMETRIES that HOLD (bits) of WAYS 1 to 7: all");
        due.answers(State.NEW, "symmetries()", BeastFloor::symmetries, 254);
        BeastFloor x = new BeastFloor();
        for (int cell = 0; cell < 64; cell++) {
            x.put(cell, 5);
        }
        due.is("of one COLOUR", x.symmetries(), 254);
    }

    private static void noneHolds() {
        due.sentence("30: SYMMETRIES that HOLD: none");
        BeastFloor x = new BeastFloor();
        int[] cells = {1, 15, 62, 6, 55, 57, 8};
        x.put(cells[0], 0);
        for (int i = 1; i < 7; i++) {
            x.put(cells[i], 1);
        }
        due.is("symmetries()", x.symmetries(), 0);
    }

    /** Where a WAY brings a CELL. */
    private static int image(int way, int cell) {
        int row = cell / 8;
        int column = way >= 4 ? 7 - cell % 8 : cell % 8;
        for (int turn = 0; turn < way % 4; turn++) {
            int was = row;
            row = column;
            column = 7 - was;
        }
        return 8 * row + column;
    }

    private static void eachHoldsAlone() {
        due.sentence("SYMMETRIES of THE FLOOR (bits of WAYS 1 to 7, turned, mirrored as a whole)");
        int[] want = {0, 2 + 4 + 8, 4, 2 + 4 + 8, 16, 32, 64, 128};
        for (int way = 1; way < 8; way++) {
            BeastFloor x = new BeastFloor();
            for (int cell = 0; cell < 64; cell++) {
                int least = cell;
                int at = cell;
                for (int i = 0; i < 3; i++) {
                    at = image(way, at);
                    least = Math.min(least, at);
                }
                x.put(cell, (least * 7 + least / 8 * least) % 6);
            }
            due.is("symmetries() that is laid by WAY " + way, x.symmetries(), want[way]);
            // The last CELL is no longer as its image; across the one diagonal it is its own.
            x.put(63, (x.at(63) + 1) % 6);
            due.is("one CELL is another one, WAY " + way, x.symmetries() & 1 << way, way == 7 ? 128 : 0);
        }
    }

    private static void lostCellsBreakNone() {
        due.sentence("HOLD: no CELL that has a COLOUR comes to one that has another one");
        BeastFloor x = new BeastFloor();
        x.put(0, 0);
        due.is("a LOST one beside", x.symmetries(), 254);
        x.put(63, 1);
        due.is("another one across", x.symmetries(), 2 + 8 + 16 + 64 + 128);
        x.put(63, 0);
        due.is("the same one", x.symmetries(), 254);
        x.put(63, -1);
        x.put(7, 1);
        due.is("the first row's last", x.symmetries(), 4 + 32 + 64 + 128);
    }

    // ---- may

    private static void mayIsBad() {
        due.sentence("31: BAD");
        for (State state : new State[] {State.NEW, State.RICH}) {
            due.outside(state, "may(#, 0)", (x, cell) -> x.may(cell, 0), -1, 0, 63);
            due.outside(state, "may(#, 1)", (x, cell) -> x.may(cell, 1), -1, 0, 63);
            due.outside(state, "may(#, 2)", (x, cell) -> x.may(cell, 2), -1, 0, 63);
            due.outside(state, "may(62, #)", (x, how) -> x.may(62, how), -1, 0, 2);
        }
    }

    private static void mayOfACellThatIsNotLost() {
        due.sentence("31: BAD: also a CELL that is not LOST");
        for (int how = 0; how < 3; how++) {
            int by = how;
            due.refusedWith(State.FULL, "may(#, " + by + ")", (x, cell) -> x.may(cell, by), -1, 0, 31, 63);
            due.refused(State.RICH, "may(1, " + by + ")", x -> x.may(1, by), -1);
            due.refused(State.RICH, "may(16, " + by + ")", x -> x.may(16, by), -1);
        }
        BeastFloor x = new BeastFloor();
        x.put(63, 0);
        due.is("may(63, 0)", x.may(63, 0), -1);
        x.put(63, -1);
        due.is("may(63, 0), LOST again", x.may(63, 0), -4);
    }

    private static void nothingIsSaid() {
        due.sentence("31: NONE: nothing is said");
        for (int how = 0; how < 3; how++) {
            int by = how;
            due.refusedWith(State.NEW, "may(#, " + by + ")", (x, cell) -> x.may(cell, by), -4, 0, 63);
        }
        BeastFloor x = due.told("book aaaa aaaa aaaa aaaa;");
        due.is("by THE BOOK on LOST CELLS", x.may(0, 1), -4);
        x.put(0, 1);
        due.is("by SYMMETRY of a CELL to which none is brought", x.may(1, 0), -4);
        due.is("by THE BOOK that AGREES nowhere", x.may(63, 1), -4);
    }

    private static void bySymmetry() {
        due.sentence("LOST CELLS: all CELLS to which WAYS that HOLD bring it, or which are brought to it, that have a COLOUR");
        for (int way = 1; way < 8; way++) {
            // No other WAY brings 1 there, but for the one that brings it back.
            BeastFloor x = new BeastFloor();
            x.put(1, 3);
            due.is("may(" + image(way, 1) + ", 0) by WAY " + way, x.may(image(way, 1), 0), 3);
        }
        // The quarters alone: CELL 0 goes to 7, and 56 goes to 0.
        BeastFloor x = new BeastFloor();
        int[] ring = {1, 15, 62, 48};
        for (int cell : ring) {
            x.put(cell, 1);
        }
        x.put(6, 2);
        due.is("symmetries()", x.symmetries(), 2 + 4 + 8);
        x.put(0, 4);
        due.is("may(7, 0): 0 is brought to it", x.may(7, 0), 4);
        due.is("may(56, 0): it is brought to 0", x.may(56, 0), 4);
        due.is("may(63, 0)", x.may(63, 0), 4);
        due.is("may(8, 0)", x.may(8, 0), 2);
    }

    private static void symmetriesThatDoNotHold() {
        due.sentence("LOST CELLS: WAYS that HOLD (alone, one by one)");
        BeastFloor x = new BeastFloor();
        int[] cells = {1, 15, 62, 6, 55, 57, 8};
        x.put(cells[0], 0);
        for (int i = 1; i < 7; i++) {
            x.put(cells[i], 1);
        }
        x.put(0, 5);
        due.is("may(7, 0): none HOLDS", x.may(7, 0), -4);
        due.is("may(48, 0)", x.may(48, 0), -4);
        // Mirrored (4) and across the diagonal (7) HOLD, what they do one behind the other (1, 3) does not.
        BeastFloor y = new BeastFloor();
        y.put(2, 0);
        for (int cell : new int[] {23, 61, 47, 58}) {
            y.put(cell, 1);
        }
        y.put(1, 2);
        due.is("symmetries()", y.symmetries(), 16 + 128);
        due.is("may(6, 0)", y.may(6, 0), 2);
        due.is("may(8, 0)", y.may(8, 0), 2);
        due.is("may(15, 0)", y.may(15, 0), -4);
    }

    private static void bySymmetryUnlike() {
        due.sentence("31: by SYMMETRY (how 0) .. STATE: UNLIKE");
        BeastFloor x = new BeastFloor();
        x.put(24, 0);
        x.put(39, 1);
        due.is("may(31, 0): a by WAY 4, b by WAY 6", x.may(31, 0), -2);
        due.is("may(32, 0)", x.may(32, 0), -2);
        due.is("may(31, 1)", x.may(31, 1), -4);
        due.is("may(31, 2)", x.may(31, 2), -2);
        x.put(39, 0);
        due.is("the same ones", x.may(31, 0), 0);
        x.put(39, -1);
        due.is("one alone", x.may(31, 0), 0);
    }

    private static void byTheBookInFourOrMore() {
        due.sentence("by THE BOOK: all COPIES .. that AGREE in 4 CELLS or more and tell it");
        BeastFloor x = due.told("book abcd efxx xxxx xxxx;");
        int[] cells = {36, 37, 38, 39, 44};
        for (int i = 0; i < 5; i++) {
            due.is("may(45, 1) with " + i, x.may(45, 1), i < 4 ? -4 : 5);
            x.put(cells[i], i);
        }
        due.is("may(45, 1) with 5", x.may(45, 1), 5);
        due.is("may(46, 1): it does not tell it", x.may(46, 1), -4);
        due.is("may(45, 2)", x.may(45, 2), 5);
    }

    private static void byTheBookTwiceAsLarge() {
        due.sentence("by THE BOOK: COPIES of SCALE 2, too");
        BeastFloor x = due.told("book abxx xxxx xxxx xxxx;");
        x.put(0, 0);
        x.put(1, 0);
        x.put(8, 0);
        due.is("may(2, 1) with 3", x.may(2, 1), -4);
        x.put(9, 0);
        for (int cell : new int[] {2, 3, 10, 11}) {
            due.is("may(" + cell + ", 1) with 4", x.may(cell, 1), 1);
        }
        due.is("may(4, 1)", x.may(4, 1), -4);
        due.is("may(16, 1): mirrored, turned", x.may(16, 1), 1);
    }

    private static void byTheBookWithoutClashes() {
        due.sentence("by THE BOOK: all COPIES without CLASHES");
        BeastFloor x = due.told("book abcd efxx xxxx xxxf;");
        for (int i = 0; i < 4; i++) {
            x.put(i, i);
        }
        due.is("may(9, 1)", x.may(9, 1), 5);
        x.put(27, 0);
        due.is("may(9, 1) with one CLASH in its last CELL", x.may(9, 1), -4);
        x.put(27, 5);
        due.is("may(9, 1) with what it tells there", x.may(9, 1), 5);
    }

    private static void byTheBookUnlike() {
        due.sentence("31: by THE BOOK (1) .. STATE: UNLIKE");
        BeastFloor x = due.told("book fedc xxxb xxxx xxxx;book fedc xxxa xxxx xxxx;book fedc xxxb xxxx xxxx;");
        Due.lay(x, ROW_OF_FOUR);
        due.is("may(31, 1)", x.may(31, 1), -2);
        due.is("may(31, 0)", x.may(31, 0), -4);
        due.is("may(31, 2)", x.may(31, 2), -2);
        due.is("may(30, 1)", x.may(30, 1), -4);
        BeastFloor y = due.told("book fedc xxxb xxxx xxxx;book fedc xxxb xxxx xxxx;");
        Due.lay(y, ROW_OF_FOUR);
        due.is("the same twice", y.may(31, 1), 1);
    }

    private static BeastFloor both(int bySymmetry) {
        BeastFloor x = due.told("book fedc xxxb xxxx xxxx;");
        Due.lay(x, ROW_OF_FOUR);
        x.put(24, bySymmetry);
        return x;
    }

    private static void sureByBothTheSame() {
        due.sentence("SURE: by both the same");
        BeastFloor x = both(1);
        due.is("may(31, 0)", x.may(31, 0), 1);
        due.is("may(31, 1)", x.may(31, 1), 1);
        due.is("may(31, 2)", x.may(31, 2), 1);
    }

    private static void sureByOneOfBoth() {
        due.sentence("SURE: .. or by one of both, the other one saying nothing");
        BeastFloor book = both(-1);
        due.is("may(31, 0)", book.may(31, 0), -4);
        due.is("may(31, 1)", book.may(31, 1), 1);
        due.is("may(31, 2)", book.may(31, 2), 1);
        BeastFloor symmetry = both(0);
        symmetry.put(20, -1);
        due.is("may(31, 0)", symmetry.may(31, 0), 0);
        due.is("may(31, 1): AGREES in 3", symmetry.may(31, 1), -4);
        due.is("may(31, 2)", symmetry.may(31, 2), 0);
    }

    private static void unlikeBesideOneAnother() {
        due.sentence("UNLIKE: they say unlike ones (.. both beside one another): nothing is SURE");
        BeastFloor x = both(0);
        due.is("may(31, 0)", x.may(31, 0), 0);
        due.is("may(31, 1)", x.may(31, 1), 1);
        due.is("may(31, 2)", x.may(31, 2), -2);
        x.fill();
        due.is("at(31): not FILLED", x.at(31), -1);
    }

    private static void unlikeInOneOfBoth() {
        due.sentence("UNLIKE: they say unlike ones (in one of both ..): nothing is SURE");
        BeastFloor x = both(0);
        x.put(39, 1);
        due.is("may(31, 0)", x.may(31, 0), -2);
        due.is("may(31, 1)", x.may(31, 1), 1);
        due.is("may(31, 2)", x.may(31, 2), -2);
        BeastFloor y = due.told("book fedc xxxb xxxx xxxx;book fedc xxxa xxxx xxxx;");
        Due.lay(y, ROW_OF_FOUR);
        y.put(24, 0);
        due.is("may(31, 0)", y.may(31, 0), 0);
        due.is("may(31, 1)", y.may(31, 1), -2);
        due.is("may(31, 2)", y.may(31, 2), -2);
        y.fill();
        due.is("at(31): not FILLED", y.at(31), -1);
    }

    // ---- lost, fill

    private static void counts(BeastFloor x, int sure, int unlike, int nothing) {
        due.is("lost(0)", x.lost(0), sure);
        due.is("lost(1)", x.lost(1), unlike);
        due.is("lost(2)", x.lost(2), nothing);
    }

    private static void lostCounts() {
        due.sentence("32: SURE (what 0), UNLIKE (1), of which nothing is said (2): how many of the LOST ones");
        counts(new BeastFloor(), 0, 0, 64);
        counts(State.FULL.make(), 0, 0, 0);
        BeastFloor one = new BeastFloor();
        one.put(0, 0);
        counts(one, 3, 0, 60);
        BeastFloor two = new BeastFloor();
        two.put(24, 0);
        two.put(39, 1);
        // The half brings one to the other and no longer HOLDS; all six others of their eight get both.
        counts(two, 0, 6, 56);
        BeastFloor last = new BeastFloor();
        for (int cell = 0; cell < 63; cell++) {
            last.put(cell, 2);
        }
        counts(last, 1, 0, 0);
        // The centre is no corner: by it no WAY HOLDS, and nothing is said of the last CELL.
        last.put(27, 1);
        last.put(29, 1);
        last.put(11, 1);
        counts(last, 0, 0, 1);
    }

    private static void lostIsBad() {
        due.sentence("32: BAD");
        for (State state : State.values()) {
            due.outside(state, "lost(#)", BeastFloor::lost, -1, 0, 2);
        }
    }

    private static void fillNone() {
        due.sentence("33: All CELLS that are SURE are FILLED: how many (none)");
        due.answers(State.NEW, "fill()", BeastFloor::fill, 0);
        due.answers(State.FULL, "fill()", BeastFloor::fill, 0);
        BeastFloor x = new BeastFloor();
        x.fill();
        due.is("count(0)", x.count(0), 64);
    }

    private static void fillAll() {
        due.sentence("33: All CELLS that are SURE are FILLED with it: how many (all)");
        BeastFloor x = due.told("book aaaa aaaa aaaa aaaa;");
        for (int cell = 60; cell < 64; cell++) {
            x.put(cell, 0);
        }
        due.is("lost(0)", x.lost(0), 60);
        due.is("fill()", x.fill(), 60);
        due.is("count(0)", x.count(0), 0);
        due.is("stones(0)", x.stones(0), 64);
        due.is("fill() again", x.fill(), 0);
        BeastFloor last = new BeastFloor();
        for (int cell = 0; cell < 63; cell++) {
            last.put(cell, 5);
        }
        due.is("the last CELL", last.fill(), 1);
        due.is("at(63)", last.at(63), 5);
    }

    private static void fillAtOnce() {
        due.sentence("33: .. at once");
        // CELL 3 is FILLED by SYMMETRY: only then THE BOOK AGREES in four, and tells CELL 10.
        BeastFloor x = due.told("book abba xxcx xxxx xxxx;");
        x.put(0, 0);
        x.put(1, 1);
        x.put(2, 1);
        x.put(4, 0);
        due.is("fill()", x.fill(), 3 + 7 + 7 + 7);
        due.is("at(3)", x.at(3), 0);
        due.is("at(10)", x.at(10), -1);
        due.is("stones(2)", x.stones(2), 0);
        due.holds("the next fill()", x.fill() > 0);
        due.is("at(10)", x.at(10), 2);
    }

    // ---- undo

    private static BeastFloor filled() {
        BeastFloor x = new BeastFloor();
        x.put(1, 4);
        due.is("fill()", x.fill(), 7);
        return x;
    }

    private static void undoOfNone() {
        due.sentence("34: STATE: there was none");
        due.refused(State.NEW, "undo()", BeastFloor::undo, -2);
        due.refused(State.RING, "undo()", BeastFloor::undo, -2);
        BeastFloor x = new BeastFloor();
        x.fill();
        due.is("undo() of one that FILLED none", x.undo(), 0);
        due.is("undo() again", x.undo(), -2);
    }

    private static void undoWhatWasUndone() {
        due.sentence("34: STATE: .. it was undone");
        BeastFloor x = filled();
        due.is("undo()", x.undo(), 7);
        due.is("count(0)", x.count(0), 63);
        due.is("at(1)", x.at(1), 4);
        String floor = Due.floor(x);
        due.is("undo() again", x.undo(), -2);
        due.holds("nothing has changed", Due.floor(x).equals(floor));
        due.is("fill() anew", x.fill(), 7);
        due.is("undo() anew", x.undo(), 7);
    }

    private static void undoTheLatest() {
        due.sentence("34: What the latest fill() FILLED is LOST again");
        BeastFloor x = filled();
        due.is("fill() of none", x.fill(), 0);
        due.is("undo() of that one", x.undo(), 0);
        due.is("count(0): the first one's stay", x.count(0), 56);
        due.is("undo(): not the one before", x.undo(), -2);
        BeastFloor y = filled();
        y.put(2, 3);
        due.is("fill() of more", y.fill(), 7);
        due.is("undo()", y.undo(), 7);
        due.is("count(0)", y.count(0), 55);
        BeastFloor all = due.told("book aaaa aaaa aaaa aaaa;");
        for (int cell = 0; cell < 4; cell++) {
            all.put(cell, 0);
        }
        all.fill();
        due.is("undo() of 60", all.undo(), 60);
        due.is("count(0)", all.count(0), 60);
        for (int cell = 0; cell < 4; cell++) {
            all.put(cell, -1);
            all.put(60 + cell, 0);
        }
        due.is("fill(), the first CELL too", all.fill(), 60);
        due.is("at(0)", all.at(0), 0);
        due.is("undo(), the first CELL too", all.undo(), 60);
        due.is("at(0)", all.at(0), -1);
    }

    private static void undoButForThosePut() {
        due.sentence("34: but for CELLS that were put .. since: how many");
        BeastFloor x = filled();
        x.put(6, 4);
        x.put(8, 0);
        x.put(15, -1);
        x.put(0, 2);
        x.put(1, 3);
        due.is("undo()", x.undo(), 4);
        due.is("at(6): put with the same", x.at(6), 4);
        due.is("at(8)", x.at(8), 0);
        due.is("at(15)", x.at(15), -1);
        due.is("at(0)", x.at(0), 2);
        due.is("at(1)", x.at(1), 3);
        due.is("at(48)", x.at(48), -1);
        BeastFloor y = filled();
        for (int cell : new int[] {6, 8, 15, 48, 55, 57, 62}) {
            y.put(cell, -1);
        }
        due.is("undo() of all that were put", y.undo(), 0);
        due.is("undo() again", y.undo(), -2);
    }

    private static void undoButForThoseRead() {
        due.sentence("34: but for CELLS that were .. read, since");
        BeastFloor x = filled();
        x.sheet(0, 0, 3);
        x.write(0, 0, 4);
        due.is("read of none", x.read(0, 0, 0, 8, 0), 0);
        due.is("read", x.read(0, 0, 0, 6, 1), 1);
        due.is("undo()", x.undo(), 6);
        due.is("at(6)", x.at(6), 4);
        due.is("at(8)", x.at(8), -1);
        // Of a torn read() all n CELLS count as read, as NOTES.md says.
        BeastFloor torn = filled();
        torn.sheet(0, 0, 1);
        due.is("read that is torn", torn.read(0, 0, 0, 6, 3), 1);
        due.is("undo()", torn.undo(), 5);
        due.is("at(6)", torn.at(6), 0);
        BeastFloor all = filled();
        due.is("read of nothing", all.read(3, 0, 0, 0, 64), 0);
        due.is("undo()", all.undo(), 0);
    }

    private static void undoBehindRefusals() {
        due.sentence("34: what is refused changes nothing");
        BeastFloor x = filled();
        x.sheet(0, 0, 1);
        x.write(0, 0, 6);
        due.is("put", x.put(6, 6), -9);
        due.is("read of what is no COLOUR", x.read(0, 0, 0, 6, 1), -20);
        due.is("read that is BAD", x.read(0, 0, 0, 6, 65), -1);
        due.is("mix", x.mix(27, 256), -1);
        due.is("mix", x.mix(0, 0), -1);
        due.is("text with a FAULT", Due.tell(x, "?"), -10);
        due.is("undo()", x.undo(), 7);
    }

    private static void undoBehindMix() {
        due.sentence("34: STATE: .. or THE FLOOR was mixed since");
        BeastFloor x = filled();
        due.is("mix to where it was", x.mix(27, 0), 1);
        String floor = Due.floor(x);
        due.is("undo()", x.undo(), -2);
        due.holds("nothing has changed", Due.floor(x).equals(floor));
        due.is("fill() since", x.fill(), 0);
        due.is("undo() of that one", x.undo(), 0);
        BeastFloor y = new BeastFloor();
        y.put(1, 4);
        y.mix(228, 0);
        due.is("fill() behind mix()", y.fill(), 7);
        due.is("undo() of it", y.undo(), 7);
        BeastFloor z = filled();
        z.mix(27, 0);
        z.put(6, -1);
        due.is("undo() behind mix() and put()", z.undo(), -2);
    }

    private static void undoBehindOtherCalls() {
        due.sentence("34: no other call takes from what was FILLED");
        BeastFloor x = filled();
        Due.tell(x, "book axxx xxxx xxxx xxxx;");
        x.lay(0, 0, 1, 0);
        x.knot(1);
        x.wipe();
        x.sheet(0, 0, 64);
        x.write(0, 0, 3);
        x.together(0);
        x.lost(0);
        x.may(0, 0);
        x.best(0);
        due.is("undo()", x.undo(), 7);
        due.is("at(0): what was laid stays", x.at(0), 0);
        due.is("at(1)", x.at(1), 4);
    }
}
