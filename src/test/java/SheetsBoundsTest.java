/** Boundary cases of sheet, write, read, torn, count: promises 40 to 44. */
public final class SheetsBoundsTest {
    private static final Bounds due = new Bounds();
    private static final int LEAST = Integer.MIN_VALUE;
    private static final int GREATEST = Integer.MAX_VALUE;

    public static void main(String[] args) {
        aSheetIsANewRow();
        itsCellsAre0();
        sheetIsBad();
        sheetOfMoreThan64();
        sheetBelow0();
        sheetBadAheadOfSize();
        writeToTheFirstAndTheLast();
        writeTheLowestBits();
        writeIsBad();
        writeNull();
        writeIndex();
        readAll();
        readNone();
        readIsBad();
        readBeyondTheFloor();
        readFromACell();
        readWhatTheMachineRefuses();
        readNull();
        readCast();
        readIndex();
        readOfWhatIsNoColour();
        readTheFirstMet();
        tornOfTheLatest();
        tornIsLeft();
        countsOfNothing();
        countsOfAll();
        countOfSheet0();
        countIsBad();
        due.end();
    }

    // ---- sheet

    private static void aSheetIsANewRow() {
        due.sentence("40: A SHEET is a new row: 1 (SHEETS 0 to 3, lanes 0 to 2, 0 to 64 CELLS)");
        for (int k = 0; k < 4; k++) {
            for (int lane = 0; lane < 3; lane++) {
                BeastFloor x = new BeastFloor();
                due.is("sheet(" + k + ", " + lane + ", 0)", x.sheet(k, lane, 0), 1);
                due.is("write to none", x.write(k, 0, 1), -12);
                due.is("sheet(" + k + ", " + lane + ", 1)", x.sheet(k, lane, 1), 1);
                due.is("write to the only one", x.write(k, 0, 1), 1);
                due.is("write behind it", x.write(k, 1, 1), -12);
                due.is("sheet(" + k + ", " + lane + ", 64)", x.sheet(k, lane, 64), 1);
                due.is("write to the last", x.write(k, 63, 1), 1);
                due.is("write behind it", x.write(k, 64, 1), -12);
                for (int other = 0; other < 4; other++) {
                    due.is("another one has nothing", x.write(other, 0, 0), other == k ? 1 : -11);
                }
            }
        }
    }

    private static void itsCellsAre0() {
        due.sentence("40: a new row of CELLS 0");
        BeastFloor x = new BeastFloor();
        x.sheet(0, 0, 64);
        due.is("read", x.read(0, 0, 0, 0, 64), 64);
        due.is("stones(0)", x.stones(0), 64);
        for (int i = 0; i < 64; i++) {
            x.write(0, i, 5);
        }
        x.sheet(0, 0, 64);
        due.is("read of the new one", x.read(0, 0, 0, 0, 64), 64);
        due.is("stones(0)", x.stones(0), 64);
        // A short one between them keeps nothing of the long one before.
        x.write(0, 63, 5);
        x.sheet(0, 0, 1);
        x.sheet(0, 0, 64);
        due.is("read of the last CELL", x.read(0, 0, 63, 0, 1), 1);
        due.is("at(0)", x.at(0), 0);
        // Of another lane it is that of the new one.
        x.sheet(0, 2, 64);
        due.is("read as of the old lane", x.read(0, 0, 0, 0, 1), 0);
        due.is("torn()", x.torn(), 3);
    }

    private static void sheetIsBad() {
        due.sentence("40: BAD");
        for (State state : State.values()) {
            due.outside(state, "sheet(#, 0, 1)", (x, k) -> x.sheet(k, 0, 1), -1, 0, 3);
            due.outside(state, "sheet(0, #, 1)", (x, lane) -> x.sheet(0, lane, 1), -1, 0, 2);
            due.outside(state, "sheet(3, #, 0)", (x, lane) -> x.sheet(3, lane, 0), -1, 0, 2);
        }
    }

    private static void sheetOfMoreThan64() {
        due.sentence("40: BAD: also n above 64");
        for (State state : State.values()) {
            due.refusedWith(state, "sheet(0, 0, #)", (x, n) -> x.sheet(0, 0, n), -1, 65, 66, GREATEST);
            due.refusedWith(state, "sheet(3, 2, #)", (x, n) -> x.sheet(3, 2, n), -1, 65, 128, GREATEST);
        }
    }

    private static void sheetBelow0() {
        due.sentence("40: -14 (SIZE): n below 0");
        for (State state : State.values()) {
            due.refusedWith(state, "sheet(0, 0, #)", (x, n) -> x.sheet(0, 0, n), -14, -1, -2, -64, -65, LEAST);
            due.refusedWith(state, "sheet(3, 2, #)", (x, n) -> x.sheet(3, 2, n), -14, -1, LEAST);
        }
    }

    private static void sheetBadAheadOfSize() {
        due.sentence("40: BAD .. -14, the first that fits");
        due.refusedWith(State.RICH, "sheet(#, 0, -1)", (x, k) -> x.sheet(k, 0, -1), -1, -1, 4);
        due.refusedWith(State.RICH, "sheet(0, #, -1)", (x, lane) -> x.sheet(0, lane, -1), -1, -1, 3);
        due.refusedWith(State.RICH, "sheet(0, #, least)", (x, lane) -> x.sheet(0, lane, LEAST), -1, -1, 3);
    }

    // ---- write

    private static void writeToTheFirstAndTheLast() {
        due.sentence("41: CELL i of a SHEET becomes v: 1");
        for (int k = 0; k < 4; k++) {
            BeastFloor x = new BeastFloor();
            x.sheet(k, 1, 64);
            due.is("write(" + k + ", 0, 3)", x.write(k, 0, 3), 1);
            due.is("write(" + k + ", 63, 4)", x.write(k, 63, 4), 1);
            due.is("read", x.read(k, 1, 0, 0, 64), 64);
            due.is("at(0)", x.at(0), 3);
            due.is("at(1)", x.at(1), 0);
            due.is("at(62)", x.at(62), 0);
            due.is("at(63)", x.at(63), 4);
        }
    }

    /** What is read of a number that was written: its COLOUR or LOST; -20: it is none of them. */
    private static void kept(int lane, int v, int want) {
        BeastFloor x = new BeastFloor();
        x.sheet(0, lane, 1);
        x.put(0, 4);
        due.is("write(0, 0, " + v + ") to lane " + lane, x.write(0, 0, v), 1);
        int read = x.read(0, lane, 0, 0, 1);
        due.is(v + " of lane " + lane, read == 1 ? x.at(0) : read, want);
    }

    private static void writeTheLowestBits() {
        due.sentence("41: (its lowest bits); BYTES (lane 0), SHORTS (1), INTS (2), all with a sign");
        for (int v = -1; v <= 5; v++) {
            for (int lane = 0; lane < 3; lane++) {
                kept(lane, v, v);
                kept(lane, v + 128, -20);
                kept(lane, v - 128, -20);
                kept(lane, v + 256, lane == 0 ? v : -20);
                kept(lane, v - 256, lane == 0 ? v : -20);
                kept(lane, v + 32768, lane == 0 ? v : -20);
                kept(lane, v + 65536, lane < 2 ? v : -20);
                kept(lane, v - 65536, lane < 2 ? v : -20);
                kept(lane, v + (1 << 24), lane < 2 ? v : -20);
            }
        }
        for (int lane = 0; lane < 3; lane++) {
            kept(lane, -2, -20);
            kept(lane, 6, -20);
            kept(lane, 127, -20);
            kept(lane, 254, -20);
            kept(lane, 255, lane == 0 ? -1 : -20);
            kept(lane, 65535, lane < 2 ? -1 : -20);
            kept(lane, GREATEST, lane < 2 ? -1 : -20);
            kept(lane, LEAST, lane < 2 ? 0 : -20);
            kept(lane, LEAST + 5, lane < 2 ? 5 : -20);
            kept(lane, LEAST + 6, -20);
        }
    }

    private static void writeIsBad() {
        due.sentence("41: BAD: k (ahead of the FAULTS)");
        for (State state : State.values()) {
            due.outside(state, "write(#, 0, 1)", (x, k) -> x.write(k, 0, 1), -1, 0, 3);
            due.outside(state, "write(#, -1, 1)", (x, k) -> x.write(k, -1, 1), -1, 0, 3);
        }
    }

    private static void writeNull() {
        due.sentence("41: -10 less the FAULT: NULL (ahead of INDEX)");
        for (int k = 0; k < 4; k++) {
            int of = k;
            due.refusedWith(State.NEW, "write(" + k + ", #, 1)", (x, i) -> x.write(of, i, 1), -11, 0, -1, 63, 64, LEAST, GREATEST);
        }
        due.refused(State.RICH, "write(3, 0, 1)", x -> x.write(3, 0, 1), -11);
    }

    private static void writeIndex() {
        due.sentence("41: -10 less the FAULT: .. INDEX");
        due.outside(State.RICH, "write(0, #, 1)", (x, i) -> x.write(0, i, 1), -12, 0, 63);
        due.outside(State.RICH, "write(1, #, 1)", (x, i) -> x.write(1, i, 1), -12, 0, -1);
        due.outside(State.RICH, "write(2, #, 1)", (x, i) -> x.write(2, i, 1), -12, 0, 4);
        due.answers(State.RICH, "write(2, 4, 1)", x -> x.write(2, 4, 1), 1);
        due.refusedWith(State.RICH, "write(2, #, 1)", (x, i) -> x.write(2, i, 1), -12, 63, 64, 260, LEAST + 4);
    }

    // ---- read

    /** A floor of one COLOUR, a SHEET 0 of INTS: -1, 0, .. 5, and again. */
    private static BeastFloor ready(int cells) {
        BeastFloor x = new BeastFloor();
        for (int cell = 0; cell < 64; cell++) {
            x.put(cell, 4);
        }
        x.sheet(0, 2, cells);
        for (int i = 0; i < cells; i++) {
            x.write(0, i, i % 7 - 1);
        }
        return x;
    }

    private static void readAll() {
        due.sentence("42: n (0 to 64) CELLS of THE FLOOR from CELL c on are read: how many were told");
        BeastFloor x = ready(64);
        due.is("read of 64", x.read(0, 2, 0, 0, 64), 64);
        for (int cell = 0; cell < 64; cell++) {
            due.is("at(" + cell + ")", x.at(cell), cell % 7 - 1);
        }
        BeastFloor one = ready(64);
        due.is("read of one", one.read(0, 2, 63, 63, 1), 1);
        due.is("at(62)", one.at(62), 4);
        due.is("at(63)", one.at(63), 63 % 7 - 1);
        BeastFloor midst = ready(64);
        due.is("read in the midst", midst.read(0, 2, 7, 30, 3), 3);
        due.is("at(29)", midst.at(29), 4);
        due.is("at(30)", midst.at(30), -1);
        due.is("at(32)", midst.at(32), 1);
        due.is("at(33)", midst.at(33), 4);
    }

    private static void readNone() {
        due.sentence("42: (.. of n 0: 0, no FAULT, whatever the SHEET is)");
        for (int c : new int[] {0, 63, 64}) {
            for (int f : new int[] {0, -1, 64, LEAST, GREATEST}) {
                for (int k = 0; k < 4; k++) {
                    BeastFloor x = State.RICH.make();
                    String floor = Due.floor(x);
                    for (int lane = 0; lane < 3; lane++) {
                        due.is("read(" + k + ", " + lane + ", " + f + ", " + c + ", 0)", x.read(k, lane, f, c, 0), 0);
                        due.is("torn()", x.torn(), 0);
                    }
                    due.holds("THE FLOOR stays", Due.floor(x).equals(floor));
                }
            }
        }
    }

    private static void readIsBad() {
        due.sentence("42: BAD: k, lane (and n: 0 to 64)");
        for (State state : State.values()) {
            due.outside(state, "read(#, 0, 0, 0, 1)", (x, k) -> x.read(k, 0, 0, 0, 1), -1, 0, 3);
            due.outside(state, "read(0, #, 0, 0, 1)", (x, lane) -> x.read(0, lane, 0, 0, 1), -1, 0, 2);
            due.outside(state, "read(0, 0, 0, 0, #)", (x, n) -> x.read(0, 0, 0, 0, n), -1, 0, 64);
            due.outside(state, "read(#, 0, 0, 0, 0)", (x, k) -> x.read(k, 0, 0, 0, 0), -1, 0, 3);
            due.outside(state, "read(0, #, 0, 0, 0)", (x, lane) -> x.read(0, lane, 0, 0, 0), -1, 0, 2);
        }
        due.refusedWith(State.RICH, "read(0, 0, 0, 9, #)", (x, n) -> x.read(0, 0, 0, 9, n), -1, -1, -9, LEAST);
    }

    private static void readBeyondTheFloor() {
        due.sentence("42: BAD: .. c below 0, c and n above 64");
        due.outside(State.RICH, "read(0, 0, 0, #, 1)", (x, c) -> x.read(0, 0, 0, c, 1), -1, 0, 63);
        due.outside(State.RICH, "read(0, 0, 0, #, 0)", (x, c) -> x.read(0, 0, 0, c, 0), -1, 0, 64);
        due.outside(State.RICH, "read(0, 0, 0, #, 64)", (x, c) -> x.read(0, 0, 0, c, 64), -1, 0, 0);
        due.outside(State.RICH, "read(0, 0, 0, #, 5)", (x, c) -> x.read(0, 0, 0, c, 5), -1, 0, 59);
        due.refused(State.RICH, "read(0, 0, 0, 1, 64)", x -> x.read(0, 0, 0, 1, 64), -1);
        due.refused(State.RICH, "read(0, 0, 0, 64, 1)", x -> x.read(0, 0, 0, 64, 1), -1);
        due.refused(State.RICH, "read(0, 0, 0, 65, -1)", x -> x.read(0, 0, 0, 65, -1), -1);
        // Together they wrap around below 64.
        due.refused(State.RICH, "read(0, 0, 0, greatest, greatest)", x -> x.read(0, 0, 0, GREATEST, GREATEST), -1);
        due.refused(State.RICH, "read(0, 0, 0, greatest, 1)", x -> x.read(0, 0, 0, GREATEST, 1), -1);
        due.refused(State.RICH, "read(0, 0, 0, 1, greatest)", x -> x.read(0, 0, 0, 1, GREATEST), -1);
        due.refused(State.RICH, "read(0, 0, 0, least, least)", x -> x.read(0, 0, 0, LEAST, LEAST), -1);
        due.refused(State.RICH, "read(0, 0, 0, greatest, least)", x -> x.read(0, 0, 0, GREATEST, LEAST), -1);
        BeastFloor x = ready(64);
        due.is("c and n 64", x.read(0, 2, 0, 59, 5), 5);
        // BAD ahead of what the SHEET would say.
        due.refused(State.NEW, "read(0, 0, 0, 64, 1) of nothing", y -> y.read(0, 0, 0, 64, 1), -1);
        due.refused(State.RICH, "read(2, 2, 4, 64, 1) of no COLOUR", y -> y.read(2, 2, 4, 64, 1), -1);
    }

    private static void readFromACell() {
        due.sentence("42: from CELL f on");
        BeastFloor x = ready(64);
        due.is("from 0", x.read(0, 2, 0, 0, 1), 1);
        due.is("at(0)", x.at(0), -1);
        due.is("from 1", x.read(0, 2, 1, 0, 1), 1);
        due.is("at(0)", x.at(0), 0);
        due.is("from 63", x.read(0, 2, 63, 0, 1), 1);
        due.is("at(0)", x.at(0), -1);
        due.is("from 64", x.read(0, 2, 64, 1, 1), 0);
        due.is("at(1)", x.at(1), -1);
    }

    /** From CELL 2 of THE FLOOR on, six CELLS: so many are told, the others LOST. */
    private static void torn(BeastFloor x, String call, int answer, int told, int fault) {
        due.is(call, answer, told);
        due.is(call + ", torn()", x.torn(), fault);
        due.is(call + ", at(1)", x.at(1), 4);
        for (int i = told; i < 6; i++) {
            due.is(call + ", at(" + (2 + i) + ")", x.at(2 + i), -1);
        }
        due.is(call + ", at(8)", x.at(8), 4);
    }

    private static void readWhatTheMachineRefuses() {
        due.sentence("42: What the machine refuses: it is LOST from there on, those ahead are as told");
        for (int cells = 0; cells <= 5; cells++) {
            BeastFloor x = ready(cells);
            for (int i = 0; i < cells; i++) {
                x.write(0, i, 5 - i);
            }
            torn(x, "read of " + cells, x.read(0, 2, 0, 2, 6), cells, 2);
            for (int i = 0; i < cells; i++) {
                due.is("at(" + (2 + i) + ")", x.at(2 + i), 5 - i);
            }
        }
        BeastFloor whole = ready(6);
        due.is("read of 6", whole.read(0, 2, 0, 2, 6), 6);
        due.is("torn()", whole.torn(), 0);
        BeastFloor all = ready(0);
        due.is("read of none of 64", all.read(0, 2, 0, 0, 64), 0);
        due.is("count(0)", all.count(0), 64);
    }

    private static void readNull() {
        due.sentence("A FAULT is what the machine finds: 1 NULL (nothing)");
        for (int lane = 0; lane < 3; lane++) {
            for (int f : new int[] {0, -1, 64, LEAST, GREATEST}) {
                BeastFloor x = ready(6);
                torn(x, "read of nothing from " + f, x.read(1, lane, f, 2, 6), 0, 1);
            }
        }
    }

    private static void readCast() {
        due.sentence("A FAULT is what the machine finds: .. 3 CAST (another lane), ahead of INDEX and of what is no COLOUR");
        for (int lane = 0; lane < 3; lane++) {
            for (int as = 0; as < 3; as++) {
                BeastFloor x = ready(6);
                x.sheet(0, lane, 6);
                if (as == lane) {
                    due.is("read as of its lane", x.read(0, as, 0, 2, 6), 6);
                    due.is("torn()", x.torn(), 0);
                } else {
                    torn(x, "lane " + lane + " as of " + as, x.read(0, as, 0, 2, 6), 0, 3);
                    torn(x, "lane " + lane + " as of " + as, x.read(0, as, 6, 2, 6), 0, 3);
                    torn(x, "lane " + lane + " as of " + as, x.read(0, as, -1, 2, 6), 0, 3);
                    x.write(0, 0, 6);
                    torn(x, "lane " + lane + " as of " + as, x.read(0, as, 0, 2, 6), 0, 3);
                    x.sheet(0, lane, 0);
                    torn(x, "none of lane " + lane + " as of " + as, x.read(0, as, 0, 2, 6), 0, 3);
                }
            }
        }
    }

    private static void readIndex() {
        due.sentence("A FAULT is what the machine finds: .. 2 INDEX");
        for (int f : new int[] {-1, -2, -6, LEAST, LEAST + 1, 6, 7, 63, 64, GREATEST, GREATEST - 1, GREATEST - 5}) {
            BeastFloor x = ready(6);
            torn(x, "read from " + f, x.read(0, 2, f, 2, 6), 0, 2);
        }
        BeastFloor x = ready(6);
        due.is("from the last", x.read(0, 2, 5, 2, 6), 1);
        due.is("torn()", x.torn(), 2);
        due.is("at(2)", x.at(2), 4);
        due.is("at(3)", x.at(3), -1);
    }

    private static void readOfWhatIsNoColour() {
        due.sentence("42: -20 less i (0 on): CELL f + i is not -1 to 5: then nothing changes");
        for (int i = 0; i < 64; i++) {
            for (int v : new int[] {-2, 6}) {
                BeastFloor x = ready(64);
                String floor = Due.floor(x);
                x.write(0, i, v);
                due.is("read with " + v + " in CELL " + i, x.read(0, 2, 0, 0, 64), -20 - i);
                due.holds("THE FLOOR stays", Due.floor(x).equals(floor));
                due.is("from it on", x.read(0, 2, i, 0, 1), -20);
                due.is("up to it", x.read(0, 2, 0, 0, i), i);
            }
        }
        BeastFloor x = ready(64);
        x.write(0, 10, 6);
        due.is("it is behind what is read", x.read(0, 2, 0, 0, 10), 10);
        due.is("it is ahead of what is read", x.read(0, 2, 11, 0, 10), 10);
        due.is("counted from f", x.read(0, 2, 8, 50, 10), -22);
        for (int v : new int[] {LEAST, GREATEST, 1000, -1000}) {
            x.write(0, 10, v);
            due.is("of " + v, x.read(0, 2, 10, 0, 1), -20);
        }
        // RICH has 1000 in the last CELL of SHEET 2.
        due.refused(State.RICH, "read(2, 2, 0, 0, 5)", y -> y.read(2, 2, 0, 0, 5), -24);
        due.refused(State.RICH, "read(2, 2, 4, 63, 1)", y -> y.read(2, 2, 4, 63, 1), -20);
    }

    private static void readTheFirstMet() {
        due.sentence("42: .. the first met");
        BeastFloor x = ready(6);
        x.write(0, 2, 6);
        x.write(0, 4, -2);
        due.is("the first of two", x.read(0, 2, 0, 0, 6), -22);
        due.is("the second", x.read(0, 2, 3, 0, 3), -21);
        // What is no COLOUR is met ahead of the end of the SHEET.
        due.refused(State.RICH, "read(2, 2, 3, 0, 64)", y -> y.read(2, 2, 3, 0, 61), -21);
        BeastFloor y = ready(6);
        due.is("the end of the SHEET alone", y.read(0, 2, 3, 0, 61), 3);
        due.is("torn()", y.torn(), 2);
    }

    // ---- torn, count

    private static void tornOfTheLatest() {
        due.sentence("43: The FAULT of the latest read() that answered 0 or more; 0");
        BeastFloor x = ready(6);
        due.is("at first", x.torn(), 0);
        x.read(1, 2, 0, 0, 1);
        due.is("NULL", x.torn(), 1);
        x.read(0, 2, 6, 0, 1);
        due.is("INDEX", x.torn(), 2);
        x.read(0, 1, 0, 0, 1);
        due.is("CAST", x.torn(), 3);
        x.read(0, 2, 0, 0, 1);
        due.is("none", x.torn(), 0);
        x.read(1, 2, 0, 0, 1);
        x.read(1, 2, 0, 0, 0);
        due.is("of n 0", x.torn(), 0);
    }

    private static void tornIsLeft() {
        due.sentence("43: (one that is refused leaves it)");
        BeastFloor x = ready(6);
        x.write(0, 0, 6);
        x.read(0, 1, 0, 0, 1);
        due.is("-20", x.read(0, 2, 0, 0, 1), -20);
        due.is("torn()", x.torn(), 3);
        due.is("BAD", x.read(4, 2, 0, 0, 1), -1);
        due.is("torn()", x.torn(), 3);
        due.is("BAD n", x.read(0, 2, 0, 0, 65), -1);
        due.is("torn()", x.torn(), 3);
        due.is("SIZE", x.sheet(0, 2, -1), -14);
        due.is("INDEX of write()", x.write(0, 6, 0), -12);
        due.is("torn(): of read() alone", x.torn(), 3);
        x.sheet(0, 2, 6);
        due.is("torn() behind sheet()", x.torn(), 3);
    }

    private static void counts(State state, int... want) {
        for (int what = 0; what < 6; what++) {
            int of = what;
            due.answers(state, "count(" + what + ")", x -> x.count(of), want[what]);
        }
    }

    private static void countsOfNothing() {
        due.sentence("44: How many: 0 LOST CELLS, 1 knots, 2 ROWS, 3 PATCHES, 4 bytes on THE TAPE (none)");
        counts(State.NEW, 64, 0, 0, 0, 0, -4);
    }

    private static void countsOfAll() {
        due.sentence("44: How many: 0 LOST CELLS, 1 knots, 2 ROWS, 3 PATCHES, 4 bytes on THE TAPE (all)");
        counts(State.FULL, 0, 24, 4, 8, 400, 64);
        due.answers(State.RICH, "count(1)", x -> x.count(1), 3);
        due.answers(State.RICH, "count(2)", x -> x.count(2), 3);
        due.answers(State.RICH, "count(3)", x -> x.count(3), 2);
        due.answers(State.RICH, "count(4)", x -> x.count(4), State.RICH_TAPE);
        due.is("12 ROWS", due.told("row 1 1;".repeat(12)).count(2), 12);
        due.is("no PATCH", due.told("row 1 1;".repeat(12)).count(3), 0);
        due.is("no ROW", due.told("patch;".repeat(12)).count(2), 0);
        due.is("12 PATCHES", due.told("patch;".repeat(12)).count(3), 12);
    }

    private static void countOfSheet0() {
        due.sentence("44: 5 CELLS of SHEET 0 (NONE: nothing)");
        BeastFloor x = new BeastFloor();
        due.is("nothing", x.count(5), -4);
        x.sheet(1, 0, 9);
        due.is("another SHEET", x.count(5), -4);
        x.sheet(0, 0, 65);
        x.sheet(0, 0, -1);
        due.is("refused", x.count(5), -4);
        x.sheet(0, 0, 0);
        due.is("without CELLS", x.count(5), 0);
        x.sheet(0, 2, 64);
        due.is("the most", x.count(5), 64);
        x.sheet(0, 1, 1);
        due.is("fewer", x.count(5), 1);
    }

    private static void countIsBad() {
        due.sentence("44: BAD");
        for (State state : State.values()) {
            due.outside(state, "count(#)", BeastFloor::count, -1, 0, 5);
        }
    }
}
