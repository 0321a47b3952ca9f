/** Promises 40 to 44: sheet, write, read, torn, count. */
public final class SheetsTest {
    private static final Due due = new Due();

    public static void main(String[] args) {
        sheets();
        lanes();
        reading();
        tearing();
        counts();
        due.end();
    }

    private static void sheets() {
        BeastFloor x = new BeastFloor();
        for (int k = 0; k < 4; k++) {
            due.is("sheet", x.sheet(k, k % 3, 64), 1);
        }
        due.is("sheet(-1, 0, 1)", x.sheet(-1, 0, 1), -1);
        due.is("sheet(4, 0, 1)", x.sheet(4, 0, 1), -1);
        due.is("sheet(0, -1, 1)", x.sheet(0, -1, 1), -1);
        due.is("sheet(0, 3, 1)", x.sheet(0, 3, 1), -1);
        due.is("sheet(0, 0, 65)", x.sheet(0, 0, 65), -1);
        due.is("sheet(0, 0, -1)", x.sheet(0, 0, -1), -14);
        due.is("sheet(0, 0, least)", x.sheet(0, 0, Integer.MIN_VALUE), -14);
        due.is("sheet(4, 0, -1): BAD comes first", x.sheet(4, 0, -1), -1);
        due.is("sheet(0, 3, -1): BAD comes first", x.sheet(0, 3, -1), -1);
        due.is("count(5): what is refused changes nothing", x.count(5), 64);
        x.write(0, 3, 5);
        due.is("sheet anew", x.sheet(0, 0, 4), 1);
        due.is("count(5)", x.count(5), 4);
        due.is("read of the new one", x.read(0, 0, 0, 0, 4), 4);
        due.is("at(3): its CELLS are 0", x.at(3), 0);
        due.is("write(0, 4, 0)", x.write(0, 4, 0), -12);
        due.is("write(0, -1, 0)", x.write(0, -1, 0), -12);
        due.is("write(4, 0, 0)", x.write(4, 0, 0), -1);
        due.is("write(-1, 0, 0)", x.write(-1, 0, 0), -1);
        due.is("sheet of none", x.sheet(0, 1, 0), 1);
        due.is("write into none", x.write(0, 0, 0), -12);
        due.is("count(5) of none", x.count(5), 0);
    }

    /** The lowest bits alone are kept, with a sign. */
    private static void lanes() {
        BeastFloor x = new BeastFloor();
        for (int lane = 0; lane < 3; lane++) {
            x.sheet(lane, lane, 3);
            x.write(lane, 0, 0x1ff);
            x.write(lane, 1, 0x10002);
            x.write(lane, 2, -254);
        }
        due.is("a BYTE of 0x1ff is -1", x.read(0, 0, 0, 0, 1), 1);
        due.is("at(0)", x.at(0), -1);
        due.is("a BYTE of 0x10002 is 2", x.read(0, 0, 1, 0, 1), 1);
        due.is("at(0)", x.at(0), 2);
        due.is("a BYTE of -254 is 2", x.read(0, 0, 2, 1, 1), 1);
        due.is("at(1)", x.at(1), 2);
        due.is("a SHORT of 0x1ff", x.read(1, 1, 0, 0, 1), -20);
        due.is("a SHORT of 0x10002 is 2", x.read(1, 1, 1, 3, 1), 1);
        due.is("at(3)", x.at(3), 2);
        due.is("a SHORT of -254", x.read(1, 1, 2, 0, 1), -20);
        for (int i = 0; i < 3; i++) {
            due.is("an INT", x.read(2, 2, i, 0, 1), -20);
        }
        x.write(1, 0, 0xffff);
        due.is("a SHORT of 0xffff is -1", x.read(1, 1, 0, 3, 1), 1);
        due.is("at(3)", x.at(3), -1);
        x.write(2, 0, -1);
        due.is("an INT of -1", x.read(2, 2, 0, 0, 1), 1);
        due.is("at(0)", x.at(0), -1);
    }

    private static void reading() {
        BeastFloor x = new BeastFloor();
        x.sheet(2, 2, 10);
        for (int i = 0; i < 10; i++) {
            x.write(2, i, i % 7 - 1);
        }
        due.is("read", x.read(2, 2, 1, 60, 4), 4);
        for (int i = 0; i < 4; i++) {
            due.is("at", x.at(60 + i), i);
        }
        due.is("read of all COLOURS", x.read(2, 2, 0, 0, 7), 7);
        for (int i = 0; i < 7; i++) {
            due.is("at", x.at(i), i - 1);
        }
        for (int i = 0; i < 7; i++) {
            x.put(i, -1);
        }
        due.is("read(.., 61, 4)", x.read(2, 2, 1, 61, 4), -1);
        due.is("read(.., -1, 4)", x.read(2, 2, 1, -1, 4), -1);
        due.is("read(.., 0, 65)", x.read(2, 2, 1, 0, 65), -1);
        due.is("read(.., 0, -1)", x.read(2, 2, 1, 0, -1), -1);
        due.is("read(.., max, 64)", x.read(2, 2, 1, Integer.MAX_VALUE, 64), -1);
        due.is("read(.., 65, 0)", x.read(2, 2, 1, 65, 0), -1);
        due.is("read(.., 64, 0)", x.read(2, 2, 1, 64, 0), 0);
        due.is("read(4, ..)", x.read(4, 2, 1, 0, 1), -1);
        due.is("read(-1, ..)", x.read(-1, 2, 1, 0, 1), -1);
        due.is("read lane 3", x.read(2, 3, 1, 0, 1), -1);
        due.is("read lane -1", x.read(2, -1, 1, 0, 1), -1);
        x.write(2, 5, 6);
        due.is("read to a CELL that is none", x.read(2, 2, 3, 0, 7), -22);
        due.is("nothing changes", x.count(0), 60);
        x.write(2, 4, -2);
        due.is("the first met", x.read(2, 2, 3, 0, 7), -21);
        x.write(2, 9, 7);
        due.is("a CELL that is none, ahead of the INDEX", x.read(2, 2, 8, 0, 7), -21);
    }

    private static void tearing() {
        BeastFloor x = new BeastFloor();
        for (int cell = 0; cell < 64; cell++) {
            x.put(cell, 5);
        }
        due.is("read of nothing", x.read(0, 0, 0, 2, 3), 0);
        due.is("torn() NULL", x.torn(), 1);
        due.is("at(1)", x.at(1), 5);
        due.is("at(2)", x.at(2), -1);
        due.is("at(4)", x.at(4), -1);
        due.is("at(5)", x.at(5), 5);
        x.sheet(0, 1, 5);
        due.is("read as of another lane", x.read(0, 2, 9, 8, 1), 0);
        due.is("torn() CAST", x.torn(), 3);
        due.is("at(8)", x.at(8), -1);
        due.is("read that is BAD", x.read(0, 1, 0, 0, 65), -1);
        due.is("torn() stays", x.torn(), 3);
        x.write(0, 0, 6);
        due.is("read that is refused", x.read(0, 1, 0, 0, 1), -20);
        due.is("torn() stays", x.torn(), 3);
        due.is("read of n 0, as of another lane", x.read(0, 0, 0, 0, 0), 0);
        due.is("torn() of n 0", x.torn(), 0);
        due.is("read beyond", x.read(0, 1, 3, 16, 4), 2);
        due.is("torn() INDEX", x.torn(), 2);
        due.is("at(17)", x.at(17), 0);
        due.is("at(18)", x.at(18), -1);
        due.is("at(19)", x.at(19), -1);
        due.is("at(20)", x.at(20), 5);
        due.is("read of nothing, n 0", x.read(3, 0, -5, 0, 0), 0);
        due.is("torn()", x.torn(), 0);
        int[] far = {-1, 5, Integer.MIN_VALUE, Integer.MAX_VALUE, Integer.MAX_VALUE - 1};
        for (int f : far) {
            due.is("read from " + f, x.read(0, 1, f, 24, 3), 0);
            due.is("torn() from " + f, x.torn(), 2);
        }
        x.sheet(1, 0, 0);
        due.is("read of a SHEET without CELLS", x.read(1, 0, 0, 32, 1), 0);
        due.is("torn()", x.torn(), 2);
        due.is("read of it as of another lane", x.read(1, 1, 0, 32, 1), 0);
        due.is("torn()", x.torn(), 3);
        due.is("read that is whole", x.read(0, 1, 1, 40, 4), 4);
        due.is("torn() of it", x.torn(), 0);
    }

    private static void counts() {
        BeastFloor x = due.told("row 1 1;patch;row 1 1;patch 0;row 1 1;");
        due.is("count(0)", x.count(0), 64);
        due.is("count(1)", x.count(1), 0);
        due.is("count(2)", x.count(2), 3);
        due.is("count(3)", x.count(3), 2);
        due.is("count(4)", x.count(4), 0);
        due.is("count(5)", x.count(5), -4);
        due.is("count(6)", x.count(6), -1);
        due.is("count(-1)", x.count(-1), -1);
        x.put(3, 3);
        x.knot(3);
        x.feed(0);
        x.sheet(0, 0, 7);
        due.is("count(0)", x.count(0), 63);
        due.is("count(1)", x.count(1), 1);
        due.is("count(4)", x.count(4), 8);
        due.is("count(5)", x.count(5), 7);
    }
}
